/-! ===== class and model answer alike ===== -/
section EQ
variable {S : Sx} {d : HD} {m : Nat} {wv : Nat → Nat × Nat}
theorem ss_e (hG : HG S d) (hv : HV d) {s w : Nat} (hs : s < dNs d) (hw : w ≤ 4) : ssC d (sa S 535) s w = ssm S (dNr d) s w := by
  have n1 : dNs d ≤ 8 := hv.1
  match w, hw with
  | 0, _ => exact (hG.2.2.2.1 s hs).symm
  | 1, _ => rfl
  | 2, _ => exact msk_congr (fun r hr => decide_eq_decide.mpr (HG_ow hG hv hr (by omega)).symm)
  | 3, _ => exact (mko_A hG hv (by omega)).symm
  | 4, _ => exact (hG.2.2.2.2.1 s (by omega)).symm
theorem rl_e (hG : HG S d) (hv : HV d) {r w : Nat} (hr : r < dNr d) (hw : w ≤ 5) : rlC d m wv (sa S 535) r w = rlm S (dNr d) (dNp d) (dOw d) m wv r w := by
  match w, hw with
  | 0, _ => exact (hG.2.2.2.2.2.1 r hr).1.symm
  | 1, _ => exact (hG.2.2.2.2.2.1 r hr).2.1.symm
  | 2, _ => exact (hG.2.2.2.2.2.1 r hr).2.2.symm
  | 3, _ => rfl
  | 4, _ => exact (mpw_A hG hv hr).symm
  | 5, _ =>
    refine msk_congr (fun p hp => ?_)
    apply Bool.eq_iff_iff.mpr
    rw [Bool.and_eq_true, decide_eq_true_iff, decide_eq_true_iff, cc_i, mab_A hG hv hr hp]
    rfl
theorem pl_e (hG : HG S d) (hv : HV d) {p w : Nat} (hp : p < dNp d) (hw : w ≤ 3) : plC d m wv (sa S 535) p w = plm S (dNr d) (dNp d) (dOw d) m wv p w := by
  match w, hw with
  | 0, _ => exact (hG.2.2.2.2.2.2 p hp).1.symm
  | 1, _ => exact (hG.2.2.2.2.2.2 p hp).2.symm
  | 2, _ => rfl
  | 3, _ =>
    refine msk_congr (fun r hr => ?_)
    apply Bool.eq_iff_iff.mpr
    rw [decide_eq_true_iff, cc_i, mab_A hG hv hr hp]
    rfl
theorem sm_cg {f g : Nat → Int32} : ∀ {n : Nat}, (∀ i, i < n → f i = g i) → sm f n = sm g n
  | 0, _ => rfl
  | n + 1, h => by
    show sm f n + f n = sm g n + g n
    rw [sm_cg (fun i hi => h i (by omega)), h n (Nat.lt_succ_self n)]
theorem td_1 (hG : HG S d) (hv : HV d) {q : Nat} : tdC S q m d wv (sa S 535) 10 = tdm S (dNs d) (dNr d) (dNp d) (dOw d) m wv 10 := by
  simp only [tdC, tdm]
  exact sm_cg (fun r hr => (mpw_A hG hv hr).symm)
theorem td_2 {q w : Nat} (h8 : sf S q 1 = sf S 59 35) (h9 : sf S 0 13 = sf S 59 37) (hw : w ≤ 9) : tdC S q m d wv (sa S 535) w = tdm S (dNs d) (dNr d) (dNp d) (dOw d) m wv w := by
  obtain rfl | rfl | rfl | rfl | rfl | rfl | rfl | rfl | rfl | rfl : w = 0 ∨ w = 1 ∨ w = 2 ∨ w = 3 ∨ w = 4 ∨ w = 5 ∨ w = 6 ∨ w = 7 ∨ w = 8 ∨ w = 9 := by omega
  all_goals simp only [tdC, tdm, mcu]
  · exact h8
  · exact h9
theorem td_e (hG : HG S d) (hv : HV d) {q w : Nat} (h8 : sf S q 1 = sf S 59 35) (h9 : sf S 0 13 = sf S 59 37) (hw : w ≤ 10) : tdC S q m d wv (sa S 535) w = tdm S (dNs d) (dNr d) (dNp d) (dOw d) m wv w := by
  by_cases h : w ≤ 9
  · exact td_2 h8 h9 h
  · have : w = 10 := by omega
    subst this
    exact td_1 hG hv
theorem cn_e (hG : HG S d) (hv : HV d) (hf : ∀ r, r < dNr d → sa S 535 (26 + r) = 0 ∨ sa S 535 (26 + r) = 1) {r p : Nat} (hr : r < dNr d) (hp : p < dNp d) : decide (sa S 535 (36 + p) = -1 ∧ ¬ sa S 535 (26 + r) = 1 ∧ cnB d m wv (sa S 535) r p 0 = true) = decide (sa S 535 (36 + p) = -1 ∧ sa S 535 (26 + r) = 0 ∧ sa S (80 + r) 1 = sa S (100 + p) 0 ∧ sa S (100 + p) 1 ≤ mpw S 535 (dNr d) (dOw d) m wv r) := by
  refine decide_eq_decide.mpr ?_
  rw [cc_i, mab_A hG hv hr hp]
  constructor
  · exact fun z => ⟨z.1, (hf r hr).resolve_right z.2.1, z.2.2⟩
  · exact fun z => ⟨z.1, fun y => by rw [z.2.1] at y; exact absurd y (by decide), z.2.2⟩
end EQ
