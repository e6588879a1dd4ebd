/-! ===== the reading of the whole pad ===== -/
def readP (L : List Int32) (m m' : MV) (r : Int32) : Prop := rdF m m' ∧ r = (fsA L 0 0 (-6) []).1 ∧ (r = -6 → ∃ tm, tm ≤ 7 ∧ m'.1 25 = nI tm ∧ (fsA L 0 0 (-6) []).2.length = 4 * tm ∧ ∀ k, k < 4 * tm → m'.2 24 k = gA (fsA L 0 0 (-6) []).2 k)
theorem q_reads {m : MV} {L : List Int32} {K : Int32 → MV → Prop} (hp : padL m L) (hK : ∀ r m', readP L m m' r → K r m') : PO_X7_reads K m := by
  have h60 := hp.1
  obtain ⟨I, hI⟩ : ∃ I : Nat → MV → Prop, I = fun w m' => (w = 0 ∧ rdF m m' ∧ ∃ j, j ≤ 60 ∧ m'.1 23 = 0 ∧ m'.1 22 = nI j ∧ (fsA L 0 0 (-6) []).1 = nI j) ∨ (∃ j tm e ns, w = 100 - j ∧ rdF m m' ∧ m'.1 23 = 1 ∧ m'.1 22 = nI j ∧ j ≤ L.length ∧ 0 < tm ∧ 8 * tm ≤ j + 1 ∧ m'.1 25 = nI tm ∧ ns.length + 1 = 4 * tm ∧ (∀ k, k < 4 * tm → m'.2 24 k = gA (ns ++ [nI e]) k) ∧ e < 1000 ∧ fsA L 0 0 (-6) [] = fsA L j 3 (nI e) ns ∧ (digC (gA L j) → ∀ ns, fsA L j 3 (nI e) ns = (nI j, ns))) := ⟨_, rfl⟩
  -- a booking read from i on, with tm before it
  have book : ∀ (X : MV → Prop) (m1 : MV) (i tm w0 : Nat) (ns : List Int32), rdF m m1 → i ≤ L.length → tm ≤ 7 → 8 * tm ≤ i → m1.1 22 = nI i → m1.1 23 = 1 → m1.1 25 = nI tm → ns.length = 4 * tm → (∀ k, k < 4 * tm → m1.2 24 k = gA ns k) → fsA L 0 0 (-6) [] = fsA L i 0 (-6) ns → 101 - i ≤ w0 + 1 → 0 < w0 → (∀ w9 m', w9 < w0 → I w9 m' → X m') → PO_X7_readsBooking (fun m3 => X m3) m1 := by
    intro X m1 i tm w0 ns hrd hi htm h8 h22 h23 h25 hns htold hcl hw hw0 hX
    refine q_readsBooking (padL_rd hp hrd) hi htm h22 h23 h25 ?_ ?_
    · intro j m' k1 k2 k3 k4 k5
      refine hX 0 m' hw0 ?_
      rw [hI]
      exact Or.inl ⟨rfl, rdF_trans hrd (rdF_td k1), j, by omega, k3, k2, by rw [hcl]; exact k5 ns (by omega)⟩
    · intro j a b c e m' k1 k2 k3 k4 k5 k6 k7 k8 k9 t0 t1 t2 t3 t4
      refine hX (100 - j) m' (by omega) ?_
      rw [hI]
      refine Or.inr ⟨j, tm + 1, e, ns ++ [nI a, nI b, nI c], rfl, rdF_trans hrd k1, k3, k2, k6, by omega, by omega, k4, by simp; omega, fun k hk => ?_, k7, by rw [hcl]; exact k9 ns (by omega), k8⟩
      have e5 : (ns ++ [nI a, nI b, nI c]) ++ [nI e] = (((ns ++ [nI a]) ++ [nI b]) ++ [nI c]) ++ [nI e] := by simp
      have l1 : (ns ++ [nI a]).length = 4 * tm + 1 := by simp; omega
      have l2 : ((ns ++ [nI a]) ++ [nI b]).length = 4 * tm + 2 := by simp; omega
      have l3 : (((ns ++ [nI a]) ++ [nI b]) ++ [nI c]).length = 4 * tm + 3 := by simp; omega
      rw [e5, gA_app, gA_app, gA_app, gA_app, l1, l2, l3, hns]
      by_cases c0 : k < 4 * tm
      · rw [if_pos (by omega), if_pos (by omega), if_pos (by omega), if_pos c0, t0 k c0]
        exact htold k c0
      · by_cases c1 : k = 4 * tm
        · rw [if_pos (by omega), if_pos (by omega), if_pos (by omega), if_neg c0, if_pos c1, c1]; exact t1
        · by_cases c2 : k = 4 * tm + 1
          · rw [if_pos (by omega), if_pos (by omega), if_neg (by omega), if_pos c2, c2]; exact t2
          · by_cases c3 : k = 4 * tm + 2
            · rw [if_pos (by omega), if_neg (by omega), if_pos c3, c3]; exact t3
            · rw [if_neg (by omega), if_pos (by omega), show k = 4 * tm + 3 by omega]; exact t4
  refine ⟨I, ?_, ?_⟩
  · intro w m' hw
    unfold wp_X7_reads_19
    have hw' := hw
    rw [hI] at hw'
    rcases hw' with ⟨-, hrd, j, hj, e23, e22, hcl⟩ | ⟨j, tm, e, ns, rfl, hrd, e23, e22, hj, htm0, h8, e25, hns, htold, he, hcl, hnc⟩
    · rw [if_pos e23, e22]
      exact hK _ m' ⟨hrd, hcl.symm, fun z => absurd z (nI_ne6 (by omega))⟩
    · rw [if_neg (by rw [e23]; decide), (padL_rd hp hrd).2.1, e22]
      by_cases c : L.length ≤ j
      · rw [if_pos ((nI_leI (by omega) (by omega)).mpr c)]
        have hend := fs_end (L := L) (j := j) (pa := 3) (nu := nI e) (ns := ns) c
        rw [if_neg (nI_ne6 he), if_pos rfl, rAdd_app (by omega)] at hend
        rw [← hcl] at hend
        refine hK (-6) m' ⟨hrd, by rw [hend], fun _ => ⟨tm, by omega, e25, by rw [hend]; simp; omega, fun k hk => by rw [hend]; exact htold k hk⟩⟩
      · rw [if_neg (fun z => c ((nI_leI (by omega) (by omega)).mp z))]
        refine q_wants1 (padL_rd hp hrd) (by omega) e22 e23 ?_ ?_
        · intro m1 k1 k2 k3 k4
          rw [if_neg (by rw [k3]; decide)]
          obtain ⟨hjl, hs⟩ := sep_yes (ns := ns) (v := e) (pa := 3) he (show gA L j = f_X2_endOf 3 from k4)
          rw [if_pos rfl, rAdd_app (by omega)] at hs
          refine book _ m1 (j + 1) tm (100 - j) (ns ++ [nI e]) (rdF_trans hrd (rdF_td k1)) (by omega) (by omega) (by omega) k2 k3 (by rw [k1.1 25 (by omega) (by omega)]; exact e25) (by simp; omega) (fun k hk => by rw [k1.2]; exact htold k hk) (by rw [hcl, hs]) (by omega) (by omega) ?_
          intro w9 m9 h9 hI9
          exact ⟨w9, h9, hI9⟩
        · intro m1 k1 k2 k3 k4
          rw [if_pos k3]
          refine ⟨0, by omega, ?_⟩
          rw [hI]
          refine Or.inl ⟨rfl, rdF_trans hrd (rdF_td k1), j, by omega, k3, k2, ?_⟩
          rw [hcl, sep_no he (Or.inl (by omega)) hnc (show gA L j ≠ f_X2_endOf 3 from k4)]
  · unfold wp_X7_reads_0
    dsimp only [yl]
    have hrd : rdF m (mI (mI (mI m 22 0) 23 1) 25 0) := ⟨fun j h1 h2 h3 => by rw [mI_ne h3, mI_ne h2, mI_ne h1], fun _ _ => rfl⟩
    refine book _ _ 0 0 101 [] hrd (Nat.zero_le _) (by omega) (by omega) rfl rfl rfl rfl (fun k hk => absurd hk (by omega)) rfl (by omega) (by omega) ?_
    intro w9 m9 _ hI9
    exact ⟨w9, hI9⟩
theorem padL_S {m : MV} {p : RV} (h : padS m p) : padL m (p.1 0) := h
theorem fFault_fs (p : RV) : fFault p = fsA (p.1 0) 0 0 (-6) [] := rfl
theorem othM_rd {m m' : MV} (h : rdF m m') : m'.2 3 = m.2 3 ∧ m'.2 5 = m.2 5 ∧ m'.2 6 = m.2 6 ∧ m'.2 7 = m.2 7 ∧ m'.2 1 = m.2 1 ∧ m'.1 4 = m.1 4 ∧ m'.1 8 = m.1 8 := ⟨h.2 3 (by omega), h.2 5 (by omega), h.2 6 (by omega), h.2 7 (by omega), h.2 1 (by omega), h.1 4 (by omega) (by omega) (by omega), h.1 8 (by omega) (by omega) (by omega)⟩
theorem modR_rd {m m' : MV} {d p p' : RV} {xs : List RV} {a0 a1 : Option RV} (h : modR m d p xs a0 a1) (hr : rdF m m') (hp : p'.1 0 = p.1 0) : modR m' d p' xs a0 a1 := by
  obtain ⟨e3, e5, e6, e7, e1, e4, e8⟩ := othM_rd hr
  obtain ⟨hd, hh, hs, hpd⟩ := h
  refine ⟨by rw [e1]; exact hd, ⟨hh.1, by rw [e4]; exact hh.2.1, by rw [e3]; exact hh.2.2⟩, ?_, ?_⟩
  · unfold sltR
    rw [e5, e6]
    exact hs
  · unfold padS
    rw [e7, e8, hp]
    exact hpd
theorem zz_fault {m : MV} {d p : RV} {xs : List RV} {a0 a1 : Option RV} {K : Int32 → MV → Prop} {T : Int32 × RV} (hT : f_X6_fault p = T) (hM : modR m d p xs a0 a1) (hK : ∀ m', modR m' d T.2 xs a0 a1 → K T.1 m') : PO_X7_fault K m := by
  obtain ⟨hS, -⟩ := id hM
  unfold f_X6_fault at hT
  dsimp only [yl] at hT
  subst hT
  unfold PO_X7_fault wp_X7_fault_0
  dsimp only [yl]
  have hM0 : modR (mI m 0 0) d p xs a0 a1 := modR_oth hM ⟨rfl, rfl, rfl, rfl, rfl, rfl, rfl, rfl⟩ hS
  refine q_reads (padL_S hM0.2.2.2) ?_
  rintro r m1 ⟨hrd, hr, -⟩
  rw [hr, ← fFault_fs]
  exact hK m1 (modR_rd hM0 hrd (rvR_ne (by omega)))
theorem zz_bookAll {m : MV} {d sv sd st p : RV} {xs : List RV} {a0 a1 : Option RV} {K : Int32 → MV → Prop} {T : Int32 × RV × RV × RV × RV × RV × List RV} (hT : fBookAll d sv sd st p xs = T) (hM : modR m d p xs a0 a1) (hK : ∀ m', modR m' T.2.1 T.2.2.2.2.2.1 T.2.2.2.2.2.2 a0 a1 → K T.1 m') : PO_X7_bookAll K m := by
  obtain ⟨hS, -⟩ := id hM
  have hM0 : modR (mI m 0 0) d p xs a0 a1 := modR_oth hM ⟨rfl, rfl, rfl, rfl, rfl, rfl, rfl, rfl⟩ hS
  obtain ⟨P', hP'⟩ : ∃ P', P' = rvR (rvR p 1 (fFault p).2) 0 [] := ⟨_, rfl⟩
  unfold fBookAll at hT
  refine ⟨fun w m' x1 => ∃ k tm D SV SD ST, k ≤ tm ∧ tm ≤ 7 ∧ x1 = nI k ∧ w = tm - k ∧ (fFault p).1 = -6 ∧ (fFault p).2.length = 4 * tm ∧ modR m' D P' (fHist xs d) a0 a1 ∧ m'.1 25 = nI tm ∧ (∀ q, q < 4 * tm → m'.2 24 q = gA (fFault p).2 q) ∧ fBA (fFault p).2 (tm - k) k D SV SD ST = fBAll d sv sd st p, ?_, ?_⟩
  · rintro w m' x1 ⟨k, tm, D, SV, SD, ST, hk, htm, rfl, rfl, hf, hlen, hMk, e25, e24, hB⟩
    rw [if_pos hf, ← hP'] at hT
    unfold wp_X7_bookAll_28
    rw [e25]
    have fin : ∀ m'' D' SV' SD' ST', modR m'' D' P' (fHist xs d) a0 a1 → (k, D', SV', SD', ST') = fBAll d sv sd st p → K (nI k) m'' := by
      intro m'' D' SV' SD' ST' hm he
      rw [← he] at hT
      subst hT
      exact hK m'' hm
    by_cases c : tm ≤ k
    · rw [if_pos ((nI_leI (by omega) (by omega)).mpr c)]
      rw [show tm - k = 0 by omega] at hB
      rw [show tm = k by omega]
      exact fin m' D SV SD ST hMk hB
    · rw [if_neg (fun z => c ((nI_leI (by omega) (by omega)).mp z))]
      rw [show tm - k = (tm - (k + 1)) + 1 by omega] at hB
      unfold fBA at hB
      have e4 : (4 : Int32) * nI k = nI (4 * k) := by rw [show (4 : Int32) = nI 4 from rfl, nI_mul]
      have p1 : nI (4 * k) + 1 = nI (4 * k + 1) := nI_add _ 1
      have p2 : nI (4 * k) + 2 = nI (4 * k + 2) := nI_add _ 2
      have p3 : nI (4 * k) + 3 = nI (4 * k + 3) := nI_add _ 3
      rw [p1, p2, p3, rAt_gA (by omega), rAt_gA (by omega), rAt_gA (by omega), rAt_gA (by omega)] at hB
      rw [e4, p1, p2, p3, nI_clamp (by omega), nI_clamp (by omega), nI_clamp (by omega), nI_clamp (by omega), e24 _ (by omega), e24 _ (by omega), e24 _ (by omega), e24 _ (by omega)]
      refine ⟨vp_in_nI (by omega) (by omega), vp_in_nI (by omega) (by omega), vp_in_nI (by omega) (by omega), vp_in_nI (by omega) (by omega), ?_⟩
      obtain ⟨⟨n, ws, hd, hR⟩, -⟩ := id hMk
      have hn := hd.1
      generalize hTT : f_X6_tryToBook D SV SD ST (gA (fFault p).2 (4 * k)) (gA (fFault p).2 (4 * k + 1)) (gA (fFault p).2 (4 * k + 2)) (gA (fFault p).2 (4 * k + 3)) = TT at hB
      refine q_refusesBook hTT hd hR ?_ ?_
      · intro m1 q1 hneg
        rw [if_neg (fun (z : 0 ≤ TT.1) => absurd hneg (Int32.not_lt.mpr z))] at hB
        rw [if_neg (fun (z : TT.1 = 0) => by rw [z] at hneg; exact absurd hneg (by decide))]
        exact fin m1 _ _ _ _ (modR_qst hMk hd q1) hB
      · rintro m1 i j q1 ⟨ha, hn16, e1, e2, hfl, hij, hj, h17, h18, hD⟩
        rw [if_pos (show 0 ≤ TT.1 by rw [e1]; exact nI_pos' (by omega))] at hB
        rw [if_pos rfl]
        have hM1 := modR_qst hMk hd q1
        refine q_books hd q1.1 ha hn16 hij hj h17 h18 hfl hD ?_
        intro m2 ho hS2
        refine ⟨_, ?_, k + 1, tm, TT.2.2.1, TT.2.1, TT.2.2.1, TT.2.2.2, by omega, htm, nI_1 k, rfl, hf, hlen, modR_oth hM1 ho (by rw [e2]; exact hS2), ?_, ?_, hB⟩
        · omega
        · rw [ho.2.2.2.2.2.2.2, q1.2.2.2.2.2.2.2.2]; exact e25
        · intro q hq
          rw [ho.2.2.2.2.1, q1.2.2.2.2.2.1]
          exact e24 q hq
  · unfold wp_X7_bookAll_0
    dsimp only [yl]
    refine q_reads (padL_S hM0.2.2.2) ?_
    rintro r m1 ⟨hrd, hr, hgood⟩
    rw [← fFault_fs] at hr hgood
    have hM1 : modR m1 d (rvR p 1 (fFault p).2) xs a0 a1 := modR_rd hM0 hrd (rvR_ne (by omega))
    by_cases c : r = -6
    · rw [if_pos c]
      obtain ⟨tm, htm, e25, hlen, e24⟩ := hgood c
      refine q_records hM1.1 hM1.2.1 ?_
      intro m2 hr2
      have hM2 := modR_rec hM1 hr2
      obtain ⟨k1, k2, -⟩ := hr2
      refine ⟨_, 0, tm, d, sv, sd, st, by omega, htm, rfl, rfl, by rw [← hr]; exact c, hlen, ?_, ?_, ?_, ?_⟩
      · obtain ⟨h1, h2, h3, h4⟩ := hM2
        refine ⟨h1, ⟨h2.1, by rw [mI_ne (by omega)]; exact h2.2.1, h2.2.2⟩, h3, ?_⟩
        unfold padS
        rw [hP', rvR_eq, mI_at]
        exact ⟨Nat.zero_le _, rfl, fun k hk => absurd hk (Nat.not_lt_zero k)⟩
      · rw [mI_ne (by omega), k1 25 (by omega)]; exact e25
      · intro q hq
        show m2.2 24 q = _
        rw [k2 24 (by omega)]
        exact e24 q hq
      · unfold fBAll
        rw [hlen, show (4 * tm + 3) / 4 = tm by omega]
        rfl
    · rw [if_neg c]
      rw [if_neg (by rw [← hr]; exact c)] at hT
      subst hT
      exact hK m1 hM1
