/-! ===== the reading of a booking ===== -/
theorem lost_6 {m : MV} {L : List Int32} {i : Nat} {K : MV → Prop} {X : Int32 → MV → Prop} (hp : padL m L) (hi : i < 1000) (h22 : m.1 22 = nI i) (h23 : m.1 23 = 0) (hK : ∀ m', tdF m m' → m'.1 22 = nI i → m'.1 23 = 0 → K m') : (PO_X7_number (900 : Int32) (fun (r6 : Int32) (n6 : MV) => (if (n6.1 23) = 0 then (K n6) else (X r6 n6))) m) := by
  refine q_number0 hp hi h22 h23 (fun r m1 g1 g2 g3 => ?_)
  rw [if_pos g3]
  exact hK m1 g1 g2 g3
theorem lost_5 {m : MV} {L : List Int32} {i : Nat} {K : MV → Prop} {X : Int32 → MV → Prop} (hp : padL m L) (hi : i < 1000) (h22 : m.1 22 = nI i) (h23 : m.1 23 = 0) (hK : ∀ m', tdF m m' → m'.1 22 = nI i → m'.1 23 = 0 → K m') : (PO_X7_wants (45 : Int32) (fun (n5 : MV) => (PO_X7_number (900 : Int32) (fun (r6 : Int32) (n6 : MV) => (if (n6.1 23) = 0 then (K n6) else (X r6 n6))) n5)) m) := by
  refine q_wants0 h22 h23 (fun m1 g1 g2 g3 => ?_)
  exact lost_6 (padL_td hp g1) hi g2 g3 (fun m' k1 k2 k3 => hK m' (tdF_trans g1 k1) k2 k3)
theorem lost_4 {m : MV} {L : List Int32} {i : Nat} {K : MV → Prop} {X : Int32 → Int32 → MV → Prop} (hp : padL m L) (hi : i < 1000) (h22 : m.1 22 = nI i) (h23 : m.1 23 = 0) (hK : ∀ m', tdF m m' → m'.1 22 = nI i → m'.1 23 = 0 → K m') : (PO_X7_number (600 : Int32) (fun (r4 : Int32) (n4 : MV) => (PO_X7_wants (45 : Int32) (fun (n5 : MV) => (PO_X7_number (900 : Int32) (fun (r6 : Int32) (n6 : MV) => (if (n6.1 23) = 0 then (K n6) else (X r4 r6 n6))) n5)) n4)) m) := by
  refine q_number0 hp hi h22 h23 (fun r m1 g1 g2 g3 => ?_)
  exact lost_5 (padL_td hp g1) hi g2 g3 (fun m' k1 k2 k3 => hK m' (tdF_trans g1 k1) k2 k3)
theorem lost_3 {m : MV} {L : List Int32} {i : Nat} {K : MV → Prop} {X : Int32 → Int32 → MV → Prop} (hp : padL m L) (hi : i < 1000) (h22 : m.1 22 = nI i) (h23 : m.1 23 = 0) (hK : ∀ m', tdF m m' → m'.1 22 = nI i → m'.1 23 = 0 → K m') : (PO_X7_wants (64 : Int32) (fun (n3 : MV) => (PO_X7_number (600 : Int32) (fun (r4 : Int32) (n4 : MV) => (PO_X7_wants (45 : Int32) (fun (n5 : MV) => (PO_X7_number (900 : Int32) (fun (r6 : Int32) (n6 : MV) => (if (n6.1 23) = 0 then (K n6) else (X r4 r6 n6))) n5)) n4)) n3)) m) := by
  refine q_wants0 h22 h23 (fun m1 g1 g2 g3 => ?_)
  exact lost_4 (padL_td hp g1) hi g2 g3 (fun m' k1 k2 k3 => hK m' (tdF_trans g1 k1) k2 k3)
theorem lost_2 {m : MV} {L : List Int32} {i : Nat} {K : MV → Prop} {X : Int32 → Int32 → Int32 → MV → Prop} (hp : padL m L) (hi : i < 1000) (h22 : m.1 22 = nI i) (h23 : m.1 23 = 0) (hK : ∀ m', tdF m m' → m'.1 22 = nI i → m'.1 23 = 0 → K m') : (PO_X7_number (11 : Int32) (fun (r2 : Int32) (n2 : MV) => (PO_X7_wants (64 : Int32) (fun (n3 : MV) => (PO_X7_number (600 : Int32) (fun (r4 : Int32) (n4 : MV) => (PO_X7_wants (45 : Int32) (fun (n5 : MV) => (PO_X7_number (900 : Int32) (fun (r6 : Int32) (n6 : MV) => (if (n6.1 23) = 0 then (K n6) else (X r2 r4 r6 n6))) n5)) n4)) n3)) n2)) m) := by
  refine q_number0 hp hi h22 h23 (fun r m1 g1 g2 g3 => ?_)
  exact lost_3 (padL_td hp g1) hi g2 g3 (fun m' k1 k2 k3 => hK m' (tdF_trans g1 k1) k2 k3)
theorem lost_1 {m : MV} {L : List Int32} {i : Nat} {K : MV → Prop} {X : Int32 → Int32 → Int32 → MV → Prop} (hp : padL m L) (hi : i < 1000) (h22 : m.1 22 = nI i) (h23 : m.1 23 = 0) (hK : ∀ m', tdF m m' → m'.1 22 = nI i → m'.1 23 = 0 → K m') : (PO_X7_wants (62 : Int32) (fun (n1 : MV) => (PO_X7_number (11 : Int32) (fun (r2 : Int32) (n2 : MV) => (PO_X7_wants (64 : Int32) (fun (n3 : MV) => (PO_X7_number (600 : Int32) (fun (r4 : Int32) (n4 : MV) => (PO_X7_wants (45 : Int32) (fun (n5 : MV) => (PO_X7_number (900 : Int32) (fun (r6 : Int32) (n6 : MV) => (if (n6.1 23) = 0 then (K n6) else (X r2 r4 r6 n6))) n5)) n4)) n3)) n2)) n1)) m) := by
  refine q_wants0 h22 h23 (fun m1 g1 g2 g3 => ?_)
  exact lost_2 (padL_td hp g1) hi g2 g3 (fun m' k1 k2 k3 => hK m' (tdF_trans g1 k1) k2 k3)
theorem endOf_vals (pa : Int32) : f_X2_endOf pa ≠ 0 ∧ ¬ digC (f_X2_endOf pa) := by
  unfold f_X2_endOf digC
  split
  · exact ⟨by decide, fun z => z (Or.inr (by decide))⟩
  · split
    · exact ⟨by decide, fun z => z (Or.inr (by decide))⟩
    · split
      · exact ⟨by decide, fun z => z (Or.inl (by decide))⟩
      · exact ⟨by decide, fun z => z (Or.inr (by decide))⟩
theorem sep_yes {L : List Int32} {j v : Nat} {pa : Int32} {ns : List Int32} (hv : v < 1000) (h : gA L j = f_X2_endOf pa) : j < L.length ∧ fsA L j pa (nI v) ns = fsA L (j + 1) (if pa = 3 then 0 else pa + 1) (-6) (rAdd 31 ns (nI v)) := by
  obtain ⟨h1, h2⟩ := endOf_vals pa
  have hj : j < L.length := by
    refine Nat.lt_of_not_le (fun z => ?_)
    rw [gA_out z] at h
    exact h1 h.symm
  refine ⟨hj, ?_⟩
  rw [fs_non hj (by rw [h]; exact h2), if_neg (nI_ne6 hv), if_pos h]
theorem sep_no {L : List Int32} {j v : Nat} {pa : Int32} {ns : List Int32} (hv : v < 1000) (hpa : j < L.length ∨ pa ≠ 3) (hd : digC (gA L j) → ∀ ns, fsA L j pa (nI v) ns = (nI j, ns)) (h : gA L j ≠ f_X2_endOf pa) : fsA L j pa (nI v) ns = (nI j, ns) := by
  by_cases hj : j < L.length
  · by_cases c : digC (gA L j)
    · exact hd c ns
    · rw [fs_non hj c, if_neg (nI_ne6 hv), if_neg h]
  · rw [fs_end (by omega), if_neg (nI_ne6 hv), if_neg (hpa.resolve_left hj)]
def rdF (m m' : MV) : Prop := (∀ j, j ≠ 22 → j ≠ 23 → j ≠ 25 → m'.1 j = m.1 j) ∧ (∀ j, j ≠ 24 → m'.2 j = m.2 j)
theorem rdF_td {m m' : MV} (h : tdF m m') : rdF m m' := ⟨fun j h1 h2 _ => h.1 j h1 h2, fun j _ => by rw [h.2]⟩
theorem rdF_trans {a b c : MV} (h : rdF a b) (g : rdF b c) : rdF a c := ⟨fun j h1 h2 h3 => (g.1 j h1 h2 h3).trans (h.1 j h1 h2 h3), fun j hj => (g.2 j hj).trans (h.2 j hj)⟩
theorem padL_rd {m m' : MV} {L : List Int32} (h : padL m L) (g : rdF m m') : padL m' L := ⟨h.1, by rw [g.1 8 (by omega) (by omega) (by omega)]; exact h.2.1, by rw [g.2 7 (by omega)]; exact h.2.2⟩
theorem q_readsBooking {m : MV} {L : List Int32} {i tm : Nat} {K : MV → Prop} (hp : padL m L) (hi : i ≤ L.length) (htm : tm ≤ 7) (h22 : m.1 22 = nI i) (h23 : m.1 23 = 1) (h25 : m.1 25 = nI tm) (hK1 : ∀ j m', tdF m m' → m'.1 22 = nI j → m'.1 23 = 0 → j ≤ L.length → (∀ ns, ns.length ≤ 28 → (fsA L i 0 (-6) ns).1 = nI j) → K m') (hK2 : ∀ j a b c e m', rdF m m' → m'.1 22 = nI j → m'.1 23 = 1 → m'.1 25 = nI (tm + 1) → i + 7 ≤ j → j ≤ L.length → e < 1000 → (digC (gA L j) → ∀ ns, fsA L j 3 (nI e) ns = (nI j, ns)) → (∀ ns, ns.length ≤ 28 → fsA L i 0 (-6) ns = fsA L j 3 (nI e) (ns ++ [nI a, nI b, nI c])) → (∀ q, q < 4 * tm → m'.2 24 q = m.2 24 q) → m'.2 24 (4 * tm) = nI a → m'.2 24 (4 * tm + 1) = nI b → m'.2 24 (4 * tm + 2) = nI c → m'.2 24 (4 * tm + 3) = nI e → K m') : PO_X7_readsBooking K m := by
  have h60 := hp.1
  unfold PO_X7_readsBooking wp_X7_readsBooking_0
  have td0 : tdF m m := tdF_refl m
  have cl0 : ∀ ns : List Int32, ns.length ≤ 28 → fsA L i 0 (-6) ns = fsA L i 0 (-6) (ns ++ []) := fun ns _ => by rw [List.append_nil]
  refine q_number1 (pa := 0) (M := 11) hp (by omega) rfl (by omega) (by decide) h22 h23 (fun r m1 g1 g2 g3 g4 => ?_) (fun j0 v0 u0 g1 g2 g3 nP0 => ?_)
  · exact lost_1 (padL_td hp (tdF_trans td0 g1)) (by omega) g2 g3 (fun m' k1 k2 k3 => hK1 (i) m' (tdF_trans (tdF_trans td0 g1) k1) k2 k3 (by omega) (fun ns hns => by rw [cl0 ns hns, g4]))
  have tn0 : tdF m u0 := tdF_trans td0 g1
  have a0 := g2
  have b0 := g3
  clear g1 g2 g3
  obtain ⟨o0, l0, w0, c0, d0⟩ := nP0
  have cn0 : ∀ ns : List Int32, ns.length ≤ 28 → fsA L i 0 (-6) ns = fsA L j0 0 (nI v0) (ns ++ []) := fun ns hns => by rw [cl0 ns hns, c0]
  refine q_wants1 (L := L) (i := j0) (padL_td hp tn0) (by omega) a0 b0 (fun m1 g1 g2 g3 g4 => ?_) (fun m1 g1 g2 g3 g4 => ?_)
  rotate_left
  · exact lost_2 (padL_td hp (tdF_trans tn0 g1)) (by omega) g2 g3 (fun m' k1 k2 k3 => hK1 j0 m' (tdF_trans (tdF_trans tn0 g1) k1) k2 k3 l0 (fun ns hns => by rw [cn0 ns hns, sep_no (by omega) (Or.inr (by decide)) d0 (show gA L j0 ≠ f_X2_endOf 0 from g4)]))
  have td1 : tdF m m1 := tdF_trans tn0 g1
  obtain ⟨lt0, -⟩ := sep_yes (ns := []) (v := v0) (pa := 0) (by omega) (show gA L j0 = f_X2_endOf 0 from g4)
  have cl1 : ∀ ns : List Int32, ns.length ≤ 28 → fsA L i 0 (-6) ns = fsA L (j0 + 1) 1 (-6) (ns ++ [nI v0]) := fun ns hns => by
    rw [cn0 ns hns, (sep_yes (v := v0) (pa := 0) (by omega) (show gA L j0 = f_X2_endOf 0 from g4)).2, rAdd_app (by simp; omega), List.append_assoc, if_neg (show ¬ (0 : Int32) = 3 by decide)]
    rfl
  have e22_0 := g2
  have e23_0 := g3
  clear g1 g2 g3 g4
  refine q_number1 (pa := 1) (M := 11) (padL_td hp td1) (by omega) rfl (by omega) (by decide) e22_0 e23_0 (fun r m1 g1 g2 g3 g4 => ?_) (fun j1 v1 u1 g1 g2 g3 nP1 => ?_)
  · exact lost_3 (padL_td hp (tdF_trans td1 g1)) (by omega) g2 g3 (fun m' k1 k2 k3 => hK1 (j0 + 1) m' (tdF_trans (tdF_trans td1 g1) k1) k2 k3 (by omega) (fun ns hns => by rw [cl1 ns hns, g4]))
  have tn1 : tdF m u1 := tdF_trans td1 g1
  have a1 := g2
  have b1 := g3
  clear g1 g2 g3
  obtain ⟨o1, l1, w1, c1, d1⟩ := nP1
  have cn1 : ∀ ns : List Int32, ns.length ≤ 28 → fsA L i 0 (-6) ns = fsA L j1 1 (nI v1) (ns ++ [nI v0]) := fun ns hns => by rw [cl1 ns hns, c1]
  refine q_wants1 (L := L) (i := j1) (padL_td hp tn1) (by omega) a1 b1 (fun m1 g1 g2 g3 g4 => ?_) (fun m1 g1 g2 g3 g4 => ?_)
  rotate_left
  · exact lost_4 (padL_td hp (tdF_trans tn1 g1)) (by omega) g2 g3 (fun m' k1 k2 k3 => hK1 j1 m' (tdF_trans (tdF_trans tn1 g1) k1) k2 k3 l1 (fun ns hns => by rw [cn1 ns hns, sep_no (by omega) (Or.inr (by decide)) d1 (show gA L j1 ≠ f_X2_endOf 1 from g4)]))
  have td2 : tdF m m1 := tdF_trans tn1 g1
  obtain ⟨lt1, -⟩ := sep_yes (ns := []) (v := v1) (pa := 1) (by omega) (show gA L j1 = f_X2_endOf 1 from g4)
  have cl2 : ∀ ns : List Int32, ns.length ≤ 28 → fsA L i 0 (-6) ns = fsA L (j1 + 1) 2 (-6) (ns ++ [nI v0, nI v1]) := fun ns hns => by
    rw [cn1 ns hns, (sep_yes (v := v1) (pa := 1) (by omega) (show gA L j1 = f_X2_endOf 1 from g4)).2, rAdd_app (by simp; omega), List.append_assoc, if_neg (show ¬ (1 : Int32) = 3 by decide)]
    rfl
  have e22_1 := g2
  have e23_1 := g3
  clear g1 g2 g3 g4
  refine q_number1 (pa := 2) (M := 600) (padL_td hp td2) (by omega) rfl (by omega) (by decide) e22_1 e23_1 (fun r m1 g1 g2 g3 g4 => ?_) (fun j2 v2 u2 g1 g2 g3 nP2 => ?_)
  · exact lost_5 (padL_td hp (tdF_trans td2 g1)) (by omega) g2 g3 (fun m' k1 k2 k3 => hK1 (j1 + 1) m' (tdF_trans (tdF_trans td2 g1) k1) k2 k3 (by omega) (fun ns hns => by rw [cl2 ns hns, g4]))
  have tn2 : tdF m u2 := tdF_trans td2 g1
  have a2 := g2
  have b2 := g3
  clear g1 g2 g3
  obtain ⟨o2, l2, w2, c2, d2⟩ := nP2
  have cn2 : ∀ ns : List Int32, ns.length ≤ 28 → fsA L i 0 (-6) ns = fsA L j2 2 (nI v2) (ns ++ [nI v0, nI v1]) := fun ns hns => by rw [cl2 ns hns, c2]
  refine q_wants1 (L := L) (i := j2) (padL_td hp tn2) (by omega) a2 b2 (fun m1 g1 g2 g3 g4 => ?_) (fun m1 g1 g2 g3 g4 => ?_)
  rotate_left
  · exact lost_6 (padL_td hp (tdF_trans tn2 g1)) (by omega) g2 g3 (fun m' k1 k2 k3 => hK1 j2 m' (tdF_trans (tdF_trans tn2 g1) k1) k2 k3 l2 (fun ns hns => by rw [cn2 ns hns, sep_no (by omega) (Or.inr (by decide)) d2 (show gA L j2 ≠ f_X2_endOf 2 from g4)]))
  have td3 : tdF m m1 := tdF_trans tn2 g1
  obtain ⟨lt2, -⟩ := sep_yes (ns := []) (v := v2) (pa := 2) (by omega) (show gA L j2 = f_X2_endOf 2 from g4)
  have cl3 : ∀ ns : List Int32, ns.length ≤ 28 → fsA L i 0 (-6) ns = fsA L (j2 + 1) 3 (-6) (ns ++ [nI v0, nI v1, nI v2]) := fun ns hns => by
    rw [cn2 ns hns, (sep_yes (v := v2) (pa := 2) (by omega) (show gA L j2 = f_X2_endOf 2 from g4)).2, rAdd_app (by simp; omega), List.append_assoc, if_neg (show ¬ (2 : Int32) = 3 by decide)]
    rfl
  have e22_2 := g2
  have e23_2 := g3
  clear g1 g2 g3 g4
  refine q_number1 (pa := 3) (M := 900) (padL_td hp td3) (by omega) rfl (by omega) (by decide) e22_2 e23_2 (fun r m1 g1 g2 g3 g4 => ?_) (fun j3 v3 u3 g1 g2 g3 nP3 => ?_)
  · rw [if_pos g3]
    exact hK1 (j2 + 1) m1 (tdF_trans td3 g1) g2 g3 (by omega) (fun ns hns => by rw [cl3 ns hns, g4])
  have tn3 : tdF m u3 := tdF_trans td3 g1
  have a3 := g2
  have b3 := g3
  clear g1 g2 g3
  obtain ⟨o3, l3, w3, c3, d3⟩ := nP3
  have cn3 : ∀ ns : List Int32, ns.length ≤ 28 → fsA L i 0 (-6) ns = fsA L j3 3 (nI v3) (ns ++ [nI v0, nI v1, nI v2]) := fun ns hns => by rw [cl3 ns hns, c3]
  rw [if_neg (by rw [b3]; decide)]
  have e4 : ∀ x : Nat, (4 : Int32) * nI x = nI (4 * x) := fun x => by rw [show (4 : Int32) = nI 4 from rfl, nI_mul]
  have e25 : u3.1 25 = nI tm := (tn3.1 25 (by omega) (by omega)).trans h25
  have n1' : ∀ x : Nat, nI x + 2 = nI (x + 2) := fun x => nI_add x 2
  have n2' : ∀ x : Nat, nI x + 3 = nI (x + 3) := fun x => nI_add x 3
  dsimp only [yl]
  have f1 : ∀ x y, (mA u3 24 x y).1 25 = nI tm := fun _ _ => e25
  rw [e25, e4, nI_clamp (by omega)]
  refine ⟨vp_in_nI (by omega) (by omega), ?_⟩
  rw [show (mA u3 24 (4 * tm) (nI v0)).1 25 = nI tm from e25, e4, nI_1, nI_clamp (by omega)]
  refine ⟨vp_in_nI (by omega) (by omega), ?_⟩
  rw [show (mA (mA u3 24 (4 * tm) (nI v0)) 24 (4 * tm + 1) (nI v1)).1 25 = nI tm from e25, e4, n1', nI_clamp (by omega)]
  refine ⟨vp_in_nI (by omega) (by omega), ?_⟩
  rw [show (mA (mA (mA u3 24 (4 * tm) (nI v0)) 24 (4 * tm + 1) (nI v1)) 24 (4 * tm + 2) (nI v2)).1 25 = nI tm from e25, e4, n2', nI_clamp (by omega)]
  refine ⟨vp_in_nI (by omega) (by omega), ?_⟩
  obtain ⟨mf, emf⟩ : ∃ z, z = mA (mA (mA (mA u3 24 (4 * tm) (nI v0)) 24 (4 * tm + 1) (nI v1)) 24 (4 * tm + 2) (nI v2)) 24 (4 * tm + 3) (nI v3) := ⟨_, rfl⟩
  rw [← emf]
  have m25 : mf.1 25 = nI tm := by rw [emf]; exact e25
  have g24 : ∀ x, mf.2 24 x = if x = 4 * tm + 3 then nI v3 else if x = 4 * tm + 2 then nI v2 else if x = 4 * tm + 1 then nI v1 else if x = 4 * tm then nI v0 else m.2 24 x := by
    intro x
    rw [emf, mA_at, mA_at, mA_at, mA_at, tn3.2]
    rfl
  refine hK2 j3 v0 v1 v2 v3 (mI mf 25 (mf.1 25 + 1)) ⟨fun q h1 h2 h3 => ?_, fun q hq => ?_⟩ ?_ ?_ ?_ (by omega) l3 (by omega) d3 (fun ns hns => by rw [cn3 ns hns]) ?_ ?_ ?_ ?_ ?_
  · rw [mI_ne h3, emf]
    exact tn3.1 q h1 h2
  · show mf.2 q = _
    rw [emf, mA_ne hq, mA_ne hq, mA_ne hq, mA_ne hq, tn3.2]
  · rw [mI_ne (by omega), emf]; exact a3
  · rw [mI_ne (by omega), emf]; exact b3
  · rw [mI_at, m25, nI_1]
  · intro q hq
    show mf.2 24 q = _
    rw [g24, if_neg (by omega), if_neg (by omega), if_neg (by omega), if_neg (by omega)]
  · show mf.2 24 _ = _
    rw [g24, if_neg (by omega), if_neg (by omega), if_neg (by omega), if_pos rfl]
  · show mf.2 24 _ = _
    rw [g24, if_neg (by omega), if_neg (by omega), if_pos rfl]
  · show mf.2 24 _ = _
    rw [g24, if_neg (by omega), if_pos rfl]
  · show mf.2 24 _ = _
    rw [g24, if_pos rfl]
