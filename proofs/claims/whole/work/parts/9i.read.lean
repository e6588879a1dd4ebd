/-! ===== the reading of the pad: the class's, from a place on ===== -/
def fsA (L : List Int32) (j : Nat) (pa nu : Int32) (ns : List Int32) : Int32 × List Int32 := ffL (L.drop j) (nI j) pa nu ns
def digC (c : Int32) : Prop := ¬ (c < 48 ∨ 57 < c)
theorem fs_end {L : List Int32} {j : Nat} {pa nu : Int32} {ns : List Int32} (h : L.length ≤ j) : fsA L j pa nu ns = if nu = -6 then (nI j, ns) else if pa = 3 then (-6, rAdd 31 ns nu) else (nI j, ns) := by
  unfold fsA
  rw [List.drop_of_length_le h]
  rfl
theorem drop_gA {L : List Int32} {j : Nat} (h : j < L.length) : L.drop j = gA L j :: L.drop (j + 1) := by
  rw [List.drop_eq_getElem_cons h]
  unfold gA
  rw [List.getD_eq_getElem?_getD, List.getElem?_eq_getElem h]
  rfl
theorem ffL_cons (c : Int32) (l : List Int32) (pl pa nu : Int32) (ns : List Int32) : ffL (c :: l) pl pa nu ns = if c < 48 ∨ 57 < c then (if nu = -6 then (pl, ns) else if c = f_X2_endOf pa then ffL l (pl + 1) (if pa = 3 then 0 else pa + 1) (-6) (rAdd 31 ns nu) else (pl, ns)) else if f_X2_withDigit nu (c - 48) < 0 then (pl, ns) else if f_X2_withDigit nu (c - 48) ≤ f_X2_mostIn pa then ffL l (pl + 1) pa (f_X2_withDigit nu (c - 48)) ns else (pl, ns) := by
  rw [ffL]
theorem fs_non {L : List Int32} {j : Nat} {pa nu : Int32} {ns : List Int32} (h : j < L.length) (hc : ¬ digC (gA L j)) : fsA L j pa nu ns = if nu = -6 then (nI j, ns) else if gA L j = f_X2_endOf pa then fsA L (j + 1) (if pa = 3 then 0 else pa + 1) (-6) (rAdd 31 ns nu) else (nI j, ns) := by
  unfold fsA
  rw [drop_gA h, ffL_cons, if_pos (Classical.not_not.mp hc), nI_1]
theorem fs_dig {L : List Int32} {j : Nat} {pa nu : Int32} {ns : List Int32} (h : j < L.length) (hc : digC (gA L j)) : fsA L j pa nu ns = if f_X2_withDigit nu (gA L j - 48) < 0 then (nI j, ns) else if f_X2_withDigit nu (gA L j - 48) ≤ f_X2_mostIn pa then fsA L (j + 1) pa (f_X2_withDigit nu (gA L j - 48)) ns else (nI j, ns) := by
  unfold fsA
  rw [drop_gA h, ffL_cons, if_neg hc, nI_1]
theorem dig_ex {c : Int32} (h : digC c) : ∃ g, g ≤ 9 ∧ c = nI (48 + g) := by
  unfold digC at h
  have t48 : (48 : Int32).toInt = 48 := by decide
  have t57 : (57 : Int32).toInt = 57 := by decide
  have h1 : ¬ c < 48 := fun z => h (Or.inl z)
  have h2 : ¬ 57 < c := fun z => h (Or.inr z)
  rw [fa_lt, t48] at h1
  rw [fa_lt, t57] at h2
  obtain ⟨n, hn, e⟩ := bd_nat (x := c) (hi := 57) ⟨by omega, by omega⟩
  rw [e, nI_toInt (by omega)] at h1
  exact ⟨n - 48, by omega, by rw [e]; congr 1; omega⟩
theorem dig_lt {L : List Int32} {j : Nat} (h : digC (gA L j)) : j < L.length := by
  refine Nat.lt_of_not_le (fun z => ?_)
  rw [gA_out z] at h
  exact h (Or.inl (by decide))
theorem in_dig (c : Int32) : (f_X7_in c 48 57 = 0 ↔ ¬ digC c) := by
  unfold f_X7_in digC
  by_cases c1 : c < 48
  · rw [if_pos c1]
    exact ⟨fun _ z => z (Or.inl c1), fun _ => rfl⟩
  · rw [if_neg c1]
    by_cases c2 : 57 < c
    · rw [if_pos c2]
      exact ⟨fun _ z => z (Or.inr c2), fun _ => rfl⟩
    · rw [if_neg c2]
      exact ⟨fun z => absurd z (by decide), fun z => absurd (fun q => q.elim c1 c2) z⟩
theorem sub48 (g a : Nat) : nI (a + (48 + g)) - 48 = nI (a + g) := by
  rw [show a + (48 + g) = (a + g) + 48 by omega, ← nI_add, show nI 48 = 48 from rfl, Int32.add_sub_cancel]
/-- what reading leaves as it is -/
def tdF (m m' : MV) : Prop := (∀ j, j ≠ 22 → j ≠ 23 → m'.1 j = m.1 j) ∧ m'.2 = m.2
theorem tdF_trans {a b c : MV} (h : tdF a b) (g : tdF b c) : tdF a c := ⟨fun j h1 h2 => (g.1 j h1 h2).trans (h.1 j h1 h2), g.2.trans h.2⟩
theorem tdF_I {m m' : MV} {k : Nat} {x : Int32} (h : tdF m m') (hk : k = 22 ∨ k = 23) : tdF m (mI m' k x) := ⟨fun j h1 h2 => by rw [mI_ne (by omega)]; exact h.1 j h1 h2, h.2⟩
theorem tdF_refl (m : MV) : tdF m m := ⟨fun _ _ _ => rfl, rfl⟩
def padL (m : MV) (L : List Int32) : Prop := L.length ≤ 60 ∧ m.1 8 = nI L.length ∧ ∀ k, k < L.length → m.2 7 k = gA L k
theorem padL_td {m m' : MV} {L : List Int32} (h : padL m L) (g : tdF m m') : padL m' L := ⟨h.1, by rw [g.1 8 (by omega) (by omega)]; exact h.2.1, by rw [g.2]; exact h.2.2⟩
theorem q_sign {m : MV} {L : List Int32} {i : Nat} {K : Int32 → Prop} (hp : padL m L) (h22 : m.1 22 = nI i) (hi : i < 1000) (hK : K (gA L i)) : PO_X7_sign m K := by
  obtain ⟨h60, h8, h7⟩ := hp
  unfold PO_X7_sign wp_X7_sign_0
  rw [h8, h22]
  by_cases c : L.length ≤ i
  · rw [if_pos ((nI_leI (by omega) (by omega)).mpr c)]
    rw [gA_out c] at hK
    exact hK
  · rw [if_neg (fun z => c ((nI_leI (by omega) (by omega)).mp z)), nI_clamp (by omega), h7 i (by omega)]
    exact ⟨vp_in_nI (by omega) (by omega), hK⟩
theorem q_wants0 {m : MV} {sg : Int32} {i : Nat} {K : MV → Prop} (h22 : m.1 22 = nI i) (h23 : m.1 23 = 0) (hK : ∀ m', tdF m m' → m'.1 22 = nI i → m'.1 23 = 0 → K m') : PO_X7_wants sg K m := by
  unfold PO_X7_wants wp_X7_wants_0
  rw [if_pos h23]
  dsimp only [yl]
  unfold wp_X7_wants_24
  rw [mI_at, if_pos rfl]
  dsimp only [yl]
  refine hK _ (tdF_I (tdF_I (tdF_refl m) (by omega)) (by omega)) ?_ ?_
  · rw [mI_at, mI_ne (by omega), h22, Int32.add_zero]
  · rw [mI_ne (by omega), mI_at]
theorem q_wants1 {m : MV} {L : List Int32} {sg : Int32} {i : Nat} {K : MV → Prop} (hp : padL m L) (hi : i < 1000) (h22 : m.1 22 = nI i) (h23 : m.1 23 = 1) (hK1 : ∀ m', tdF m m' → m'.1 22 = nI (i + 1) → m'.1 23 = 1 → gA L i = sg → K m') (hK2 : ∀ m', tdF m m' → m'.1 22 = nI i → m'.1 23 = 0 → gA L i ≠ sg → K m') : PO_X7_wants sg K m := by
  unfold PO_X7_wants wp_X7_wants_0
  rw [if_neg (by rw [h23]; decide)]
  refine q_sign hp h22 hi ?_
  by_cases c : gA L i = sg
  · rw [if_pos c]
    dsimp only [yl]
    unfold wp_X7_wants_24
    rw [mI_at, if_neg (by decide)]
    dsimp only [yl]
    refine hK1 _ (tdF_I (tdF_I (tdF_refl m) (by omega)) (by omega)) ?_ ?_ c
    · rw [mI_at, mI_ne (by omega), h22, nI_1]
    · rw [mI_ne (by omega), mI_at]
  · rw [if_neg c]
    dsimp only [yl]
    unfold wp_X7_wants_24
    rw [mI_at, if_pos rfl]
    dsimp only [yl]
    refine hK2 _ (tdF_I (tdF_I (tdF_refl m) (by omega)) (by omega)) ?_ ?_ c
    · rw [mI_at, mI_ne (by omega), h22, Int32.add_zero]
    · rw [mI_ne (by omega), mI_at]
/-- a number was read from i to j: its value, what the class has there, and that it can't go on -/
def numP (L : List Int32) (pa : Int32) (M i j v : Nat) : Prop := i < j ∧ j ≤ L.length ∧ v ≤ M ∧ (∀ ns, fsA L i pa (-6) ns = fsA L j pa (nI v) ns) ∧ (digC (gA L j) → ∀ ns, fsA L j pa (nI v) ns = (nI j, ns))
theorem q_number0 {m : MV} {L : List Int32} {mo : Int32} {i : Nat} {K : Int32 → MV → Prop} (hp : padL m L) (hi : i < 1000) (h22 : m.1 22 = nI i) (h23 : m.1 23 = 0) (hK : ∀ r m', tdF m m' → m'.1 22 = nI i → m'.1 23 = 0 → K r m') : PO_X7_number mo K m := by
  refine ⟨fun w m' x2 => w = 0 ∧ tdF m m' ∧ m'.1 22 = nI i ∧ m'.1 23 = 0, ?_, ?_⟩
  · rintro w m' x2 ⟨rfl, h1, h2, h3⟩
    unfold wp_X7_number_59
    rw [if_pos h3]
    unfold wp_X7_number_126
    exact hK _ m' h1 h2 h3
  · unfold wp_X7_number_0
    rw [if_pos h23]
    dsimp only [yl]
    unfold wp_X7_number_30
    have h1 : tdF m (mI m 23 0) := tdF_I (tdF_refl m) (by omega)
    refine q_sign (L := L) (i := i) (padL_td hp h1) (by rw [mI_ne (by omega)]; exact h22) hi ?_
    rw [mI_at, if_pos rfl]
    dsimp only [yl]
    exact ⟨0, rfl, tdF_I h1 (by omega), by rw [mI_at, mI_ne (by omega), h22, Int32.add_zero], by rw [mI_ne (by omega), mI_at]⟩
theorem most_le {pa : Int32} {M : Nat} (h : f_X2_mostIn pa = nI M) : 9 ≤ M ∨ 2147483648 ≤ M := by
  unfold f_X2_mostIn at h
  by_cases hM : M < 2147483648
  · left
    split at h
    · split at h
      · have := (nI_eq (a := 600) (b := M) (by omega) hM).mp h; omega
      · have := (nI_eq (a := 900) (b := M) (by omega) hM).mp h; omega
    · have := (nI_eq (a := 11) (b := M) (by omega) hM).mp h; omega
  · exact Or.inr (by omega)
theorem q_number1 {m : MV} {L : List Int32} {pa : Int32} {M i : Nat} {mo : Int32} {K : Int32 → MV → Prop} (hp : padL m L) (hi : i ≤ L.length) (hmo : mo = nI M) (hM : M < 1000) (hpa : f_X2_mostIn pa = nI M) (h22 : m.1 22 = nI i) (h23 : m.1 23 = 1) (hK1 : ∀ r m', tdF m m' → m'.1 22 = nI i → m'.1 23 = 0 → (∀ ns, fsA L i pa (-6) ns = (nI i, ns)) → K r m') (hK2 : ∀ j v m', tdF m m' → m'.1 22 = nI j → m'.1 23 = 1 → numP L pa M i j v → K (nI v) m') : PO_X7_number mo K m := by
  have h60 := hp.1
  have hM9 := most_le hpa
  refine ⟨fun w m' x2 => tdF m m' ∧ ((w = 0 ∧ m'.1 22 = nI i ∧ m'.1 23 = 0 ∧ ∀ ns, fsA L i pa (-6) ns = (nI i, ns)) ∨ ∃ j v, w = 100 - j ∧ x2 = nI v ∧ m'.1 22 = nI j ∧ m'.1 23 = 1 ∧ i < j ∧ j ≤ L.length ∧ v ≤ M ∧ ∀ ns, fsA L i pa (-6) ns = fsA L j pa (nI v) ns), ?_, ?_⟩
  · rintro w m' x2 ⟨htd, ⟨rfl, e1, e2, e3⟩ | ⟨j, v, rfl, rfl, e1, e2, hij, hj, hv, hcl⟩⟩
    · unfold wp_X7_number_59
      rw [if_pos e2]
      unfold wp_X7_number_126
      exact hK1 _ m' htd e1 e2 e3
    · unfold wp_X7_number_59 wp_X7_number_126
      rw [if_neg (by rw [e2]; decide)]
      have hp' := padL_td hp htd
      by_cases c0 : v = 0
      · rw [if_pos (by rw [c0]; decide)]
        refine hK2 j v m' htd e1 e2 ⟨hij, hj, hv, hcl, fun hd ns => ?_⟩
        rw [fs_dig (dig_lt hd) hd, c0]
        have : f_X2_withDigit (nI 0) (gA L j - 48) = -3 := by
          unfold f_X2_withDigit
          rw [if_neg (by decide), if_pos (by decide)]
        rw [this, if_pos (by decide)]
      · rw [if_neg (nI_nle (by omega) (by omega))]
        refine q_sign hp' e1 (by omega) ?_
        dsimp only [yl]
        by_cases cd : f_X7_in (gA L j) 48 57 = 0
        · rw [if_pos cd]
          exact hK2 j v m' htd e1 e2 ⟨hij, hj, hv, hcl, fun hd => absurd hd ((in_dig _).mp cd)⟩
        · rw [if_neg cd]
          have hd : digC (gA L j) := Classical.not_not.mp (fun z => cd ((in_dig _).mpr z))
          obtain ⟨g, hg, eg⟩ := dig_ex hd
          have hjl := dig_lt hd
          refine q_sign hp' e1 (by omega) ?_
          have ev : (10 : Int32) * nI v + gA L j - 48 = nI (10 * v + g) := by
            rw [eg, show (10 : Int32) = nI 10 from rfl, nI_mul, nI_add, sub48]
          have ew : f_X2_withDigit (nI v) (gA L j - 48) = nI (10 * v + g) := by
            unfold f_X2_withDigit
            rw [if_neg (nI_ne6 (by omega)), if_neg (nI_ne0 (by omega) (by omega)), eg]
            have h48 := sub48 g 0
            rw [Nat.zero_add, Nat.zero_add] at h48
            rw [h48, show (10 : Int32) = nI 10 from rfl, nI_mul, nI_add, Nat.mul_comm]
          have hfs := fun ns => fs_dig (L := L) (j := j) (pa := pa) (nu := nI v) (ns := ns) hjl hd
          rw [ev, hmo]
          rw [ew, hpa] at hfs
          by_cases cm : M < 10 * v + g
          · rw [if_pos ((nI_ltI (by omega) (by omega)).mpr cm)]
            refine hK2 j v m' htd e1 e2 ⟨hij, hj, hv, hcl, fun _ ns => ?_⟩
            rw [hfs, if_neg (nI_pos (by omega)), if_neg (nI_ge cm (by omega))]
          · rw [if_neg (fun z => cm ((nI_ltI (by omega) (by omega)).mp z))]
            refine q_sign hp' e1 (by omega) ?_
            rw [ev]
            refine ⟨_, ?_, tdF_I htd (by omega), Or.inr ⟨j + 1, 10 * v + g, rfl, rfl, by rw [mI_at, e1, nI_1], by rw [mI_ne (by omega)]; exact e2, by omega, by omega, by omega, fun ns => ?_⟩⟩
            · omega
            · rw [hcl, hfs, if_neg (nI_pos (by omega)), if_pos ((nI_leI (by omega) (by omega)).mpr (by omega))]
  · unfold wp_X7_number_0
    rw [if_neg (by rw [h23]; decide)]
    refine q_sign hp h22 (by omega) ?_
    dsimp only [yl]
    by_cases cd : f_X7_in (gA L i) 48 57 = 0
    · rw [if_pos cd]
      unfold wp_X7_number_30
      have h1 : tdF m (mI m 23 0) := tdF_I (tdF_refl m) (by omega)
      refine q_sign (L := L) (i := i) (padL_td hp h1) (by rw [mI_ne (by omega)]; exact h22) (by omega) ?_
      rw [mI_at, if_pos rfl]
      dsimp only [yl]
      refine ⟨0, tdF_I h1 (by omega), Or.inl ⟨rfl, by rw [mI_at, mI_ne (by omega), h22, Int32.add_zero], by rw [mI_ne (by omega), mI_at], fun ns => ?_⟩⟩
      by_cases cl : i < L.length
      · rw [fs_non cl ((in_dig _).mp cd), if_pos rfl]
      · rw [fs_end (by omega), if_pos rfl]
    · rw [if_neg cd]
      unfold wp_X7_number_30
      have hd : digC (gA L i) := Classical.not_not.mp (fun z => cd ((in_dig _).mpr z))
      obtain ⟨g, hg, eg⟩ := dig_ex hd
      have hil := dig_lt hd
      have h1 : tdF m (mI m 23 1) := tdF_I (tdF_refl m) (by omega)
      refine q_sign (L := L) (i := i) (padL_td hp h1) (by rw [mI_ne (by omega)]; exact h22) (by omega) ?_
      rw [mI_at, if_neg (by decide)]
      dsimp only [yl]
      have h48 : gA L i - 48 = nI g := by
        have h := sub48 g 0
        rw [Nat.zero_add, Nat.zero_add] at h
        rw [eg, h]
      rw [h48]
      refine ⟨_, tdF_I h1 (by omega), Or.inr ⟨i + 1, g, rfl, rfl, by rw [mI_at, mI_ne (by omega), h22, nI_1], by rw [mI_ne (by omega), mI_at], by omega, by omega, by omega, fun ns => ?_⟩⟩
      have ew : f_X2_withDigit (-6) (gA L i - 48) = nI g := by unfold f_X2_withDigit; rw [if_pos rfl, h48]
      rw [fs_dig hil hd, ew, hpa, if_neg (nI_pos (by omega)), if_pos ((nI_leI (by omega) (by omega)).mpr (by omega))]
