/-! ===== the law: its start ===== -/
theorem day0_ok : dayOk D0 0 [] := by
  have hz : ∀ (k : Nat) (i : Nat), k ≠ 0 → gA (D0.1 k) i = 0 := fun k i hk => by
    show gA (if k = 0 then [3, 10, 1] else []) i = 0
    rw [if_neg hk]
    rfl
  refine ⟨by omega, ⟨rfl, by decide, rfl, rfl, rfl, rfl, rfl, rfl, rfl, rfl, rfl⟩, ⟨⟨?_, ?_, ?_⟩, ⟨fun i => ?_, fun i => ?_⟩, ⟨fun i => ?_, fun i => ?_, fun i => ?_⟩, fun r hr => absurd hr (Nat.not_lt_zero r), ⟨0, by omega, rfl⟩⟩, bd0 (by omega) (by omega), bd0 (by omega) (by omega), ⟨rfl, ⟨by decide, fun j hj => absurd hj (Nat.not_lt_zero j), fun p q _ hq => absurd hq (Nat.not_lt_zero q), fun p q _ hq => absurd hq (Nat.not_lt_zero q)⟩, by decide, fun r hr => absurd hr (Nat.not_lt_zero r)⟩, ?_⟩
  · unfold bd; decide
  · unfold bd; decide
  · unfold bd; decide
  · rw [hz _ _ (by omega)]; exact bd0 (by omega) (by omega)
  · rw [hz _ _ (by omega)]; exact bd0 (by omega) (by omega)
  · rw [hz _ _ (by omega)]; exact bd0 (by omega) (by omega)
  · rw [hz _ _ (by omega)]; exact bd0 (by omega) (by omega)
  · rw [hz _ _ (by omega)]; exact bd0 (by omega) (by omega)
  · show (nStand (D0.1 8) 1).toInt ≤ (gA (D0.1 0) 0).toInt
    decide
theorem modR_0 : modR M0 D0 T0 [] (slA none) (slA none) := by
  have hs : ∀ x : Nat, 3 ≤ x → M0.2 1 x = 0 := fun x hx => by
    show upd (upd (upd (fun _ => 0) 0 3) 1 10) 2 1 x = 0
    unfold upd
    rw [if_neg (by omega), if_neg (by omega), if_neg (by omega)]
  have hg : ∀ i, gA ([] : List Int32) i = 0 := fun i => rfl
  refine ⟨⟨0, [], day0_ok, ⟨⟨⟨rfl, rfl, rfl⟩, fun i hi => ⟨?_, ?_⟩, fun r hr => absurd hr (Nat.not_lt_zero r), hs 6 (by omega), hs 7 (by omega)⟩, hs 3 (by omega), hs 4 (by omega), hs 5 (by omega), hs 8 (by omega), fun k hk => absurd hk (Nat.not_lt_zero k)⟩⟩, ⟨by decide, rfl, fun k hk => absurd hk (Nat.not_lt_zero k)⟩, ⟨⟨rfl, fun d h => by cases h⟩, ⟨rfl, fun d h => by cases h⟩⟩, ⟨by decide, rfl, fun k hk => absurd hk (Nat.not_lt_zero k)⟩⟩
  · rw [hs _ (by omega)]; rfl
  · rw [hs _ (by omega)]; rfl
