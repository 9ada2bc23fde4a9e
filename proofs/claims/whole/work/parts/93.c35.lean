/-! ===== hopeless: alike ===== -/
section EQ4
variable {S : Sx} {d : HD} {m : Nat} {wv : Nat → Nat × Nat}
theorem bt_hpI {ab : Nat → Bool} {p : Nat} {b : Int32} (hp : p < 32) {k : Nat} (hk : k < 32) : ∀ n, bt (hpI ab p b n) k = (bt b k && (!decide (p = k) || allB (fun r => !ab r) n))
  | 0 => by
    show bt b k = (bt b k && (!decide (p = k) || true))
    simp
  | n + 1 => by
    have ih := bt_hpI (ab := ab) (p := p) (b := b) hp hk n
    show bt (hpI ab p b n &&& (if ab n = true then (1 <<< (ix p &&& 31)) ^^^ (-1) else hpI ab p b n)) k = (bt b k && (!decide (p = k) || (allB (fun r => !ab r) n && !ab n)))
    rw [bt_and]
    by_cases e : ab n = true
    · rw [if_pos e, bt_xm _ hk, ix_nI, bt_1 hp, ih, e]
      cases bt b k <;> cases decide (p = k) <;> cases allB (fun r => !ab r) n <;> rfl
    · rw [if_neg e, ih]
      have e : ab n = false := by cases q : ab n with | true => exact absurd q e | false => rfl
      rw [e]
      cases bt b k <;> cases decide (p = k) <;> cases allB (fun r => !ab r) n <;> rfl
theorem bt_hpO {ab : Nat → Nat → Bool} {nr : Nat} {b : Int32} {k : Nat} (hk : k < 32) : ∀ n, n ≤ 32 → bt (hpO ab nr b n) k = (bt b k && (!decide (k < n) || allB (fun r => !ab k r) nr))
  | 0, _ => by
    show bt b k = _
    simp
  | n + 1, hn => by
    show bt (hpI (ab n) n (hpO ab nr b n) nr) k = _
    rw [bt_hpI (by omega) hk nr, bt_hpO hk n (by omega)]
    by_cases e : n = k
    · subst e
      rw [decide_eq_true rfl, decide_eq_false (Nat.lt_irrefl n), decide_eq_true (Nat.lt_succ_self n)]
      cases bt b n <;> rfl
    · rw [decide_eq_false e]
      by_cases z : k < n
      · rw [decide_eq_true z, decide_eq_true (show k < n + 1 by omega)]
        cases bt b k <;> cases allB (fun r => !ab k r) nr <;> rfl
      · rw [decide_eq_false z, decide_eq_false (show ¬ k < n + 1 by omega)]
        cases bt b k <;> rfl
theorem allB_j {p : Nat → Bool} : ∀ {n : Nat}, allB p n = true ↔ ∀ i, i < n → p i = true
  | 0 => ⟨fun _ i hi => absurd hi (Nat.not_lt_zero i), fun _ => rfl⟩
  | n + 1 => by
    rw [allB_s, Bool.and_eq_true, allB_j]
    constructor
    · rintro ⟨h1, h2⟩ i hi
      by_cases e : i = n
      · subst e; exact h2
      · exact h1 i (by omega)
    · exact fun h => ⟨fun i hi => h i (by omega), h n (Nat.lt_succ_self n)⟩
theorem msk_z {q : Nat → Bool} {n : Nat} (hn : n ≤ 32) : decide (msk q n = 0) = allB (fun r => !q r) n := by
  apply Bool.eq_iff_iff.mpr
  rw [decide_eq_true_iff, allB_j]
  constructor
  · intro h i hi
    have := bt_msk q n hn i
    rw [h, bt_0, decide_eq_true hi, Bool.true_and] at this
    rw [← this]
    rfl
  · intro h
    exact (msk_congr (q := fun _ => false) (fun i hi => by have := h i hi; cases e : q i with | false => rfl | true => rw [e] at this; cases this)).trans (msk_no _)
set_option maxRecDepth 1000000 in
theorem sub_m : ∀ n, n ≤ 8 → ∀ x, x < 256 → x < 2 ^ n → msk (fun _ => true) n - nI x = msk (fun i => !bt (nI x) i) n := by decide +kernel
set_option maxRecDepth 1000000 in
theorem or_p : ∀ n, n < 8 → ∀ x, x < 256 → x < 2 ^ n → nI x ||| (1 : Int32) <<< (ix n &&& 31) = nI (x + 2 ^ n) := by decide +kernel
theorem mskN {q : Nat → Bool} : ∀ (n : Nat), n ≤ 8 → ∃ x, x < 2 ^ n ∧ msk q n = nI x
  | 0, _ => ⟨0, by decide, rfl⟩
  | n + 1, hn => by
    obtain ⟨x, h1, h2⟩ := mskN (q := q) n (by omega)
    have hp : 2 ^ n ≤ 2 ^ 7 := Nat.pow_le_pow_right (by decide) (by omega)
    by_cases e : q n = true
    · refine ⟨x + 2 ^ n, by rw [Nat.pow_succ]; omega, ?_⟩
      rw [← msk_t e, h2]
      exact or_p n (by omega) x (by omega) h1
    · exact ⟨x, by rw [Nat.pow_succ]; omega, by rw [← msk_f0 e]; exact h2⟩
theorem sub_q {q : Nat → Bool} {n : Nat} (hn : n ≤ 8) : msk (fun _ => true) n - msk q n = msk (fun i => !q i) n := by
  obtain ⟨x, h1, h2⟩ := mskN (q := q) n hn
  have hp : 2 ^ n ≤ 2 ^ 8 := Nat.pow_le_pow_right (by decide) hn
  rw [h2, sub_m n hn x (by omega) h1]
  refine msk_congr (fun i hi => ?_)
  rw [← h2, bt_msk q n (by omega), decide_eq_true hi, Bool.true_and]
theorem hp_e (hG : HG S d) (hv : HV d) (hD : DT d (sa S 535)) {n : Nat} (hn : n ≤ 1000) : hpO (fun p r => decide (sa (dyN (trS S) 536 (dNr d) n) (80 + r) 1 = sa (dyN (trS S) 536 (dNr d) n) (100 + p) 0 ∧ sa (dyN (trS S) 536 (dNr d) n) (100 + p) 1 ≤ mpw (dyN (trS S) 536 (dNr d) n) 536 (dNr d) (dOw d) m wv r)) (dNr d) (1 <<< (nI (dNp d) &&& 31) - 1 - mcu S 535 (dNp d)) (dNp d) = msk (fun p => decide (sa S 535 (36 + p) = -1) && decide (msk (fun r => cnB d m wv (sa S 535) r p (nI n)) (dNr d) = 0)) (dNp d) := by
  have n2 : dNr d ≤ 10 := hv.2.1
  have n3 : dNp d ≤ 8 := hv.2.2.1
  apply bt_ext
  intro k hk
  rw [bt_hpO hk _ (by omega), msk_sh _ n3]
  unfold mcu
  rw [sub_q n3, bt_msk _ _ (by omega), bt_msk _ _ (by omega)]
  by_cases e : k < dNp d
  · rw [decide_eq_true e, Bool.true_and, Bool.true_and, msk_z (by omega), show (!decide (sa S 535 (36 + k) ≠ -1)) = decide (sa S 535 (36 + k) = -1) by by_cases z : sa S 535 (36 + k) = -1 <;> simp [z]]
    congr 1
    show allB (fun r => !decide _) (dNr d) = _
    apply Bool.eq_iff_iff.mpr
    rw [allB_j, allB_j]
    exact ⟨fun h r hr => by rw [← cd_e hG hv hD hr e hn]; exact h r hr, fun h r hr => by have := h r hr; rw [← cd_e hG hv hD hr e hn] at this; exact this⟩
  · rw [decide_eq_false e]
    rfl
end EQ4
