/-! ===== time goes by ===== -/
theorem dayTF {d : RV} {n : Nat} {ws : List Nat} (hd : dayOk d n ws) : ∀ k, k ≤ ws.length → tabF d ws n k := by
  obtain ⟨hn, hl, hb, hf, -, ⟨-, hw, -⟩, -⟩ := hd
  exact tab_F (by omega) hw hl hb (bd_wide hf (by omega) (by omega))
theorem tab_at {d : RV} {n k : Nat} {ws : List Nat} (hd : dayOk d n ws) (hk : k < ws.length) : rAt ((TK d ws ws.length).1 0) (nI k) = sTime d (TK d ws k) (gN ws k) := by
  have hwl := hd.2.2.2.2.2.1.2.1.1
  obtain ⟨-, -, -, -, -, fb, -⟩ := dayTF hd ws.length (Nat.le_refl _)
  rw [rAt_gA (by omega)]
  exact (fb k hk).1
theorem mid_tm {d e : RV} {k v : Nat} {ws : List Nat} (hm : midP d e ws k) : tmI e (e.2 1) (e.2 2).toInt v = tmI d (pK d ws k) (fK d ws k) v := by
  obtain ⟨h1, -, h3, h4⟩ := hm
  rw [tmI_same (fun j _ hj => h1 j (by omega)), h3, h4]
  rfl
theorem drop_cons {ws : List Nat} {k : Nat} (hk : k < ws.length) : ws.drop k = gN ws k :: ws.drop (k + 1) := by
  rw [List.drop_eq_getElem_cons hk, gN_get hk]
theorem carry_step {d e : RV} {n k : Nat} {ws : List Nat} (hd : dayOk d n ws) (hq : invQ e n (ws.drop k)) (hm : midP d e ws k) (hk : k < ws.length) (ht : rAt ((TK d ws ws.length).1 0) (nI k) < e.2 0) : invQ (fDo (TK d ws ws.length) e k) n (ws.drop (k + 1)) ∧ midP d (fDo (TK d ws ws.length) e k) ws (k + 1) := by
  have hw := hd.2.2.2.2.2.1.2.1
  have hn := hd.1
  have hv : gN ws k < 2 * n := hw.2.1 k hk
  have hti := tab_at hd hk
  have htI := time_K hd.2.2.1 (dayTF hd k (by omega)) (by have := hw.1; omega)
  have h11 : e.1 11 = (ws.drop k).map nI := hq.1.2.2.2.2.2.1.1
  have e0 : rAt (e.1 11) 0 = nI (gN ws k) := by
    rw [show rAt (e.1 11) (0 : Int32) = gA (e.1 11) 0 from rAt_gA (i := 0) (by omega), h11, drop_cons hk]
    rfl
  have eF : fDo (TK d ws ws.length) e k = mkV e (gN ws k) (sTime d (TK d ws k) (gN ws k)) := by
    unfold fDo mkV
    rw [e0, hti]
  rw [hti] at ht
  have hnow := hq.1.2.2.2.2.1
  have hbt : bd (sTime d (TK d ws k) (gN ws k)) 0 2000 := by
    obtain ⟨-, -, -, -, -, -, fc, -⟩ := dayTF hd k (by omega)
    have h1 := (sTime_bd (v := gN ws k) hd.2.2.1.2.1 hd.2.2.1.2.2.1 fc (by have := hw.1; omega)).1
    rw [fa_lt] at ht
    have := hnow.2
    exact ⟨h1, by omega⟩
  rw [drop_cons hk] at hq
  have hti2 : (sTime d (TK d ws k) (gN ws k)).toInt = tmI e (e.2 1) (e.2 2).toInt (gN ws k) := by rw [mid_tm hm, htI]; rfl
  rw [eF]
  refine ⟨mkV_inv hq hbt hti2, ?_⟩
  obtain ⟨eo, -, -, -, -, f0, f1, f2⟩ := mkV_eq (e := e) (ti := sTime d (TK d ws k) (gN ws k)) (v := gN ws k) (by omega)
  obtain ⟨s0, s1, -⟩ := TK_step (d := d) (by omega) hw hk
  obtain ⟨h1, h2, h3, h4⟩ := hm
  refine ⟨fun j hj => (eo j (by omega) (by omega) (by omega) (by omega)).trans (h1 j hj), f0.trans h2, ?_, ?_⟩
  · rw [f1, s0, sSt_same (h1 3 (by omega)) (h1 4 (by omega))]
  · rw [f2, s1, h1 0 (by omega)]
theorem carry_inv {d : RV} {n : Nat} {ws : List Nat} (hd : dayOk d n ws) : ∀ (m k : Nat) (e : RV), k + m = ws.length → invQ e n (ws.drop k) → midP d e ws k → ∃ k', k' ≤ ws.length ∧ (fCarryN (TK d ws ws.length) m k e).1 = k' ∧ invP (fCarryN (TK d ws ws.length) m k e).2 n (ws.drop k') := by
  intro m
  induction m with
  | zero =>
    intro k e hk hq hm
    refine ⟨k, by omega, rfl, hq, ?_⟩
    rw [List.drop_of_length_le (by omega)]
    trivial
  | succ m ih =>
    intro k e hk hq hm
    have hkl : k < ws.length := by omega
    unfold fCarryN
    by_cases c : rAt ((TK d ws ws.length).1 0) (nI k) < e.2 0
    · rw [if_pos c]
      obtain ⟨h1, h2⟩ := carry_step hd hq hm hkl c
      exact ih (k + 1) _ (by omega) h1 h2
    · rw [if_neg c]
      refine ⟨k, by omega, rfl, hq, ?_⟩
      rw [tab_at hd hkl, fa_lt, time_K hd.2.2.1 (dayTF hd k (by omega)) (by have := hd.2.2.2.2.2.1.2.1.1; omega)] at c
      rw [drop_cons hkl]
      show (e.2 0).toInt ≤ tmI e (e.2 1) (e.2 2).toInt (gN ws k)
      rw [mid_tm hm]
      show (e.2 0).toInt ≤ tK d ws k
      omega
theorem inv_pass {d : RV} {n : Nat} {ws : List Nat} {nw : Int32} (h : invP d n ws) (h1 : bd nw 0 2000) : ∃ k', k' ≤ ws.length ∧ (fCarry (fFollow T0 (rvI d 0 nw)) (rvI d 0 nw)).1 = k' ∧ invP (fCarry (fFollow T0 (rvI d 0 nw)) (rvI d 0 nw)).2 n (ws.drop k') := by
  obtain ⟨⟨hd, hlt, hrf, hst⟩, hft⟩ := h
  have hd4 := dayOk_now hd h1
  have h11 : (rvI d 0 nw).1 11 = ws.map nI := hd4.2.2.2.2.2.1.1
  have e : fCarry (fFollow T0 (rvI d 0 nw)) (rvI d 0 nw) = fCarryN (TK (rvI d 0 nw) ws ws.length) ws.length 0 (rvI d 0 nw) := by
    unfold fCarry
    rw [follow_TK h11, h11, List.length_map]
  rw [e]
  refine carry_inv hd4 ws.length 0 _ (by omega) ⟨hd4, ?_, fun r hr => ?_, hst⟩ ⟨fun j _ => rfl, rfl, rfl, rfl⟩
  · rw [List.drop_zero]
    show lateP (rvI d 0 nw) (d.2 1) (d.2 2).toInt ws
    exact late_same (d := d) (e := rvI d 0 nw) (fun j _ => rfl) ws _ _ hlt
  · exact rideF_same (d := d) rfl rfl rfl rfl rfl (fun _ => Int.le_refl _) (hrf r hr)
