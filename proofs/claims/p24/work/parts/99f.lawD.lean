set_option maxHeartbeats 4000000 in
set_option maxRecDepth 100000 in
theorem lw_glob {s : State} {b : Nat} (l : Launch) (hts : ∀ w ∈ lw_tbl, w.before #[Value.ref b] s = true) : ∃ g : yG, g.1 = l ∧ va_K g.2.1 vwCl (yTy g) s ∧ yNw s := by
  obtain ⟨c0, i0, K0⟩ := u_known (C := RX0) (T := TX0) (N := 15) (n := 15) hts inX0 (hts _ (wsL_law_in _ kw_i0))
  obtain ⟨c1, i1, K1⟩ := u_known (C := RX1) (T := TX1) (N := 2) (n := 2) hts inX1 (hts _ (wsL_law_in _ kw_i1))
  obtain ⟨c2, i2, K2⟩ := u_known (C := RX2) (T := TX2) (N := 2) (n := 2) hts inX2 (hts _ (wsL_law_in _ kw_i2))
  obtain ⟨c3, i3, K3⟩ := u_known (C := RX3) (T := TX3) (N := 2) (n := 2) hts inX3 (hts _ (wsL_law_in _ kw_i3))
  obtain ⟨c4, i4, K4⟩ := u_known (C := RX4) (T := TX4) (N := 9) (n := 9) hts inX4 (hts _ (wsL_law_in _ kw_i4))
  obtain ⟨c5, i5, K5⟩ := u_known (C := RX5) (T := TX5) (N := 10) (n := 10) hts inX5 (hts _ (wsL_law_in _ kw_i5))
  obtain ⟨c6, i6, K6⟩ := u_known (C := RX6) (T := TX6) (N := 6) (n := 6) hts inX6 (hts _ (wsL_law_in _ kw_inst6))
  obtain ⟨cI, kI, pI, a1, a2, a3⟩ := Cond.arrayClass_spec (hts _ (wsL_law_in _ kw_arr))
  have hao : (Cond.arrayOver (.object RX0)).before #[Value.ref b] s = true := hts _ lw_ao
  obtain ⟨pD, cD, kD, d1, d2, d3, d4, d5⟩ := Cond.arrayOver_spec hao
  refine ⟨(l, (fun k => match k with | 0 => c0 | 1 => c1 | 2 => c2 | 3 => c3 | 4 => c4 | 5 => c5 | _ => c6, fun k => match k with | 0 => i0 | 1 => i1 | 2 => i2 | 3 => i3 | 4 => i4 | 5 => i5 | _ => i6), cI, cI, cD), rfl, ⟨?_, ?_⟩, ?_, va_AO.of hao⟩
  · intro k q hq
    match k, hq with
    | 0, hq => cases hq; exact K0
    | 1, hq => cases hq; exact K1
    | 2, hq => cases hq; exact K2
    | 3, hq => cases hq; exact K3
    | 4, hq => cases hq; exact K4
    | 5, hq => cases hq; exact K5
    | 6, hq => cases hq; exact K6
    | k + 7, hq => simp [vwCl] at hq
  · intro k q hq
    match k, hq with
    | 0, hq => cases hq; exact ⟨fun n z => ⟨(fun k h => by cases h), kI, a2, pI, a3⟩, a1⟩
    | 1, hq => cases hq; exact ⟨fun n z => ⟨(fun k h => by cases h), kD, d3, pD, d4⟩, kD, pD, d3, d4, d1, d5⟩
    | k + 2, hq => simp [yTy] at hq
  · intro w hw
    obtain ⟨a, i, x, h, rfl⟩ := yN_form w hw
    exact va_Nw.of rfl (hts _ (lw_yN _ hw))
