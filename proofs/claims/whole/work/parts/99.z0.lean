/-! ===== the first state stands ===== -/
theorem z_16 : ∀ k, k < 31 → z16 k = cb0 0 k := by decide
theorem z_535 : ∀ k, k < 45 → z535 k = row0 k := by decide
theorem z_14 : ∀ k, k < 7 → z14 k = nI (enc (plW k)) := by decide
theorem z_38 : ∀ k, k < 10 → z38 k = -1 := by decide
theorem z_67 : ∀ k, k < 8 → z67 k = -1 := by decide
theorem z_63 : ∀ k, k < 3 → z63 k = 0 := by decide
theorem s_16 : sa S00 16 = z16 := rfl
theorem s_535 : sa S00 535 = z535 := rfl
theorem s_14 : sa S00 14 = z14 := rfl
theorem s_38 : sa S00 38 = z38 := rfl
theorem s_67 : sa S00 67 = z67 := rfl
theorem s_63 : sa S00 63 = z63 := rfl
theorem INV_0 : INV S00 := by
  have n0 : ∀ k : Nat, ¬ k < 0 := Nat.not_lt_zero
  have hz : ∀ k, k < 45 → sa S00 535 k = row0 k := fun k hk => by rw [s_535]; exact z_535 k hk
  refine INV_i (a := 4) (a' := 39) (b := 13) (b' := 48) (q := 37) (q' := 51) (d := hd0) (m := 0) (wv := fun _ => (0, 0)) (l := []) (tp := 0) (cc := fun _ => 0) (w := 0) (im := 0) (ws := fun _ => 0) ⟨⟨Or.inl ⟨rfl, rfl, rfl⟩, Or.inl rfl, Or.inl rfl, rfl, rfl, ⟨rfl, rfl, rfl, fun s h => absurd h (n0 s), fun s h => absurd h (n0 s), fun s h => absurd h (n0 s)⟩, HV_0, ⟨Nat.zero_le _, fun k h => absurd h (n0 k)⟩, ⟨rfl, fun k hk => ?_⟩, RC_0 HV_0 (fun k hk => ?_) hz⟩, ⟨Or.inr rfl, by decide, rfl, Or.inr rfl, by decide, rfl, Or.inl rfl, Or.inr rfl, by decide, rfl, rfl⟩, ⟨⟨?_, ?_, ?_, fun s h => absurd h (n0 s), fun k hk => ?_, fun s h => absurd h (n0 s), fun s h => absurd h (n0 s)⟩, ⟨rfl, fun k h => absurd h (n0 k)⟩, DT_z HV_0 hz, KA_z HV_0 hz⟩, ⟨⟨rfl, fun k hk => ?_⟩, rfl, fun k h => absurd h (n0 k), List.nodup_nil, fun z h => by cases h⟩, ⟨by decide, rfl, rfl, fun k h => absurd h (n0 k)⟩, ⟨rfl, rfl, rfl, rfl⟩, ⟨rfl, rfl, Nat.zero_le _, rfl, rfl, fun k h => absurd h (n0 k)⟩, ⟨rfl, rfl, Nat.zero_le _, rfl, rfl, fun j hj => sh3 (P := fun j => sf S00 (53 + 2 * j) 0 = nI 16 ∧ sf S00 (53 + 2 * j) 1 = 31) ⟨rfl, rfl⟩ ⟨rfl, rfl⟩ ⟨rfl, rfl⟩ hj, fun k h => absurd h (n0 k)⟩⟩
  · show sa S00 14 k = nI (enc (plW k))
    rw [s_14]
    exact z_14 k hk
  · rw [s_16]
    exact z_16 k hk
  · rw [s_63]; exact z_63 0 (by decide)
  · rw [s_63]; exact z_63 1 (by decide)
  · rw [s_63]; exact z_63 2 (by decide)
  · rw [s_67]; exact z_67 k hk
  · show sa S00 38 k = lnV [] k
    rw [s_38]
    exact z_38 k hk
