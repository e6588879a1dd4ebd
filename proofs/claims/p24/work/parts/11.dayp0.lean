/-! ===== days, pure ===== -/
/-- how many of a row are such a number -/
def cntOf (xs : List Int32) (how : Int32) : Nat := xs.countP (fun x => decide (x = how))
def nStand (xs : List Int32) (how : Int32) : Int32 := nI (cntOf xs how)
theorem rAt_lt {xs : List Int32} {i : Nat} (h : i < xs.length) (hb : i < 2147483648) : rAt xs (nI i) = xs[i] := by
  rw [rAt_nI hb]; simp [List.getD, h]
theorem cntOf_take_succ {xs : List Int32} {how : Int32} {i : Nat} (h : i < xs.length) : cntOf (xs.take (i + 1)) how = cntOf (xs.take i) how + if xs[i] = how then 1 else 0 := by
  unfold cntOf
  rw [List.take_succ_eq_append_getElem h, List.countP_append]
  simp [List.countP_cons]
/-- a row of a day is not long: ownership says so -/
def lenOk (d : RV) : Prop := ∀ k, (d.1 k).length < 2147483648
theorem p_X0_ridesThatStand {d : RV} {how : Int32} (hl : (d.1 8).length < 2147483648) : PO_X0_ridesThatStand d how (fun r => r = nStand (d.1 8) how) := by
  refine ⟨fun w x2 x3 => ∃ i, x3 = nI i ∧ i ≤ (d.1 8).length ∧ w = (d.1 8).length - i ∧ x2 = nI (cntOf ((d.1 8).take i) how), ?_, ?_⟩
  · rintro w x2 x3 ⟨i, rfl, h1, rfl, rfl⟩
    unfold wp_X0_ridesThatStand_4 rLen
    simp only [yl]
    by_cases c : (d.1 8).length ≤ i
    · rw [if_pos ((nI_leI hl (by omega)).mpr c)]
      show _ = nI _
      rw [List.take_of_length_le c]
    · rw [if_neg (fun z => c ((nI_leI hl (by omega)).mp z)), rAt_lt (by omega) (by omega), nI_1, nI_1]
      by_cases e : (d.1 8)[i] = how
      · rw [if_pos e]
        refine ⟨_, by omega, i + 1, rfl, by omega, rfl, ?_⟩
        rw [cntOf_take_succ (by omega), if_pos e]
      · rw [if_neg e]
        refine ⟨_, by omega, i + 1, rfl, by omega, rfl, ?_⟩
        rw [cntOf_take_succ (by omega), if_neg e]; rfl
  · exact ⟨_, 0, rfl, Nat.zero_le _, rfl, by simp [cntOf, nI]⟩
