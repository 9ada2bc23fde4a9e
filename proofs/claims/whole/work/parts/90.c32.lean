/-! ===== class and model answer alike, on ===== -/
section EQ2
variable {S : Sx} {d : HD} {m : Nat} {wv : Nat → Nat × Nat}
theorem bst_cg {ok : Nat → Bool} {f g : Nat → Int32} {m0 : Int32} : ∀ {n : Nat}, (∀ i, i < n → f i = g i) → bst ok f m0 n = bst ok g m0 n
  | 0, _ => rfl
  | n + 1, h => by
    show (if ok n = true ∧ (bst ok f m0 n).2 < f n then (ix n, f n) else bst ok f m0 n) = (if ok n = true ∧ (bst ok g m0 n).2 < g n then (ix n, g n) else bst ok g m0 n)
    rw [bst_cg (fun i hi => h i (by omega)), h n (Nat.lt_succ_self n)]
theorem bst_ge {ok : Nat → Bool} {f : Nat → Int32} {m0 : Int32} : ∀ (n : Nat), m0 ≤ (bst ok f m0 n).2
  | 0 => Int32.le_refl _
  | n + 1 => by
    have ih := bst_ge (ok := ok) (f := f) (m0 := m0) n
    by_cases h : ok n = true ∧ (bst ok f m0 n).2 < f n
    · rw [bst_t h]
      exact Int32.le_trans ih (Int32.le_of_lt h.2)
    · rw [bst_f h]
      exact ih
theorem bst_el {f : Nat → Int32} : ∀ (n : Nat), bst (fun r => decide (f r ≠ -1)) f (-1) n = bst (fun _ => true) f (-1) n
  | 0 => rfl
  | n + 1 => by
    have ih := bst_el (f := f) n
    show (if decide (f n ≠ -1) = true ∧ (bst (fun r => decide (f r ≠ -1)) f (-1) n).2 < f n then (ix n, f n) else bst (fun r => decide (f r ≠ -1)) f (-1) n) = (if true = true ∧ (bst (fun _ => true) f (-1) n).2 < f n then (ix n, f n) else bst (fun _ => true) f (-1) n)
    rw [ih]
    have hg := bst_ge (ok := fun _ => true) (f := f) (m0 := -1) n
    by_cases e : f n = -1
    · have a1 : ¬ (decide (f n ≠ -1) = true ∧ (bst (fun _ => true) f (-1) n).2 < f n) := fun z => absurd e (of_decide_eq_true z.1)
      have a2 : ¬ (true = true ∧ (bst (fun _ => true) f (-1) n).2 < f n) := fun z => by rw [e] at z; exact absurd z.2 (Int32.not_lt.mpr hg)
      rw [if_neg a1, if_neg a2]
    · by_cases z : (bst (fun _ => true) f (-1) n).2 < f n
      · rw [if_pos ⟨decide_eq_true e, z⟩, if_pos ⟨rfl, z⟩]
      · rw [if_neg (fun y => z y.2), if_neg (fun y => z y.2)]
theorem st_e (hG : HG S d) (hv : HV d) : bst (fun r => decide (sa S 535 (16 + r) ≠ -1)) (pwN d m wv (sa S 535)) (-1) (dNr d) = bst (fun r => decide (sa S 535 (16 + r) ≠ -1)) (mpw S 535 (dNr d) (dOw d) m wv) (-1) (dNr d) := bst_cg (fun r hr => (mpw_A hG hv hr).symm)
theorem brf_cg {kp : Nat → Bool} {f g : Nat → Int32} : ∀ {n : Nat}, (∀ i, i < n → f i = g i) → brf kp f n = brf kp g n
  | 0, _ => rfl
  | n + 1, h => by
    show brf kp f n &&& (if kp n = true then (1 <<< (f n &&& 31)) ^^^ (-1) else brf kp f n) = brf kp g n &&& (if kp n = true then (1 <<< (g n &&& 31)) ^^^ (-1) else brf kp g n)
    rw [brf_cg (fun i hi => h i (by omega)), h n (Nat.lt_succ_self n)]
theorem br_e (hG : HG S d) : brf (fun r => decide (sa S 535 (16 + r) ≠ -1)) (fun r => nI (dIl d r)) (dNr d) = brf (fun r => decide (sa S 535 (16 + r) ≠ -1)) (fun r => sa S (80 + r) 1) (dNr d) := brf_cg (fun r hr => (hG.2.2.2.2.2.1 r hr).2.1.symm)
theorem id_e (hG : HG S d) (hv : HV d) : msk (fun s => decide (sa S 535 (0 + s) = 0 ∧ kM d (sa S 535) s = 0)) (dNs d) = msk (fun s => decide (sa S 535 (0 + s) = 0 ∧ mko S 535 (ix s) (dNr d) = 0)) (dNs d) := msk_congr (fun s hs => by
  have n1 : dNs d ≤ 8 := hv.1
  rw [ix_nI, mko_A hG hv (show s < 100 by omega)])
theorem ne_e (hG : HG S d) {x : Int32} : sm (fun p => if nI (dPi d p) = x ∧ sa S 535 (36 + p) = -1 then nI (dPn d p) else 0) (dNp d) = sm (fun p => if sa S (100 + p) 0 = x ∧ sa S 535 (36 + p) = -1 then sa S (100 + p) 1 else 0) (dNp d) := sm_cg (fun p hp => by
  rw [(hG.2.2.2.2.2.2 p hp).1, (hG.2.2.2.2.2.2 p hp).2])
theorem sg_e (hG : HG S d) (hv : HV d) {x : Int32} : sm (fun r => if nI (dOw d r) = x then pwN d m wv (sa S 535) r else 0) (dNr d) = sm (fun r => if sa S (80 + r) 0 = x then mpw S 535 (dNr d) (dOw d) m wv r else 0) (dNr d) := sm_cg (fun r hr => by
  rw [(hG.2.2.2.2.2.1 r hr).1, mpw_A hG hv hr])
end EQ2
