theorem g2_1 {v : Nat} (h : v % 2 = 1) (j : Nat) : Nat.gcd (2 ^ j) v = 1 := by
  apply Nat.gcd_pow_left_of_gcd_eq_one
  rw [Nat.gcd_rec, h]
  rfl
theorem p162 (n : Nat) : 16 ^ n = 2 ^ (4 * n) := by rw [Nat.pow_mul]
theorem gcd2 {n k v u : Nat} (hk : k ≤ 4 * n) (hu : v * 2 ^ k = u) (h : v % 2 = 1 ∨ k = 4 * n) : Nat.gcd (16 ^ n) u = 2 ^ k := by
  have e : 16 ^ n = 2 ^ (4 * n - k) * 2 ^ k := by rw [p162, ← Nat.pow_add, Nat.sub_add_cancel hk]
  rw [e, ← hu, Nat.gcd_mul_right]
  rcases h with h | h
  · rw [g2_1 h, Nat.one_mul]
  · rw [h, Nat.sub_self, Nat.pow_zero, Nat.gcd_one_left, Nat.one_mul]
set_option maxRecDepth 100000 in
theorem shl_2 : ∀ j, j < 49 → (1 : Int64) <<< ((nI j).toInt64 &&& 63) = lN (2 ^ j) := by decide +kernel
theorem l_and1 {v : Nat} (h : v < 2 ^ 62) : lN v &&& 1 = lN (v % 2) := by
  apply Int64.toBitVec_inj.mp
  show BitVec.ofNat 64 v &&& 1#64 = BitVec.ofNat 64 (v % 2)
  apply BitVec.eq_of_toNat_eq
  rw [BitVec.toNat_and, BitVec.toNat_ofNat, BitVec.toNat_ofNat, BitVec.toNat_ofNat, Nat.mod_eq_of_lt (show v < 2 ^ 64 by omega), Nat.mod_eq_of_lt (show 1 < 2 ^ 64 by decide), Nat.and_one_is_mod, Nat.mod_eq_of_lt (show v % 2 < 2 ^ 64 by omega)]
theorem r_X10_leastTerms {g : Gp} {S : Sx} {u n : Nat} {x : Int32} (hu : u < 2 ^ 62) (hn : n ≤ 12) : RT g mX10_leastTerms 0 [.long (lN u), .int (nI n), .int x] S (some (.long (if x = 0 then lN (u / Nat.gcd (16 ^ n) u) else lN (16 ^ n / Nat.gcd (16 ^ n) u)))) S := by
  refine RT_ofQ ⟨rfl, rfl⟩ (Nat.le_of_ble_eq_true rfl) (fun sz Q hQ => ?_)
  have fin : ∀ k v, k ≤ 4 * n → v * 2 ^ k = u → (v % 2 = 1 ∨ k = 4 * n) → J g mX10_leastTerms 0 [] 36 [some (.long (lN u)), none, some (.int (nI n)), some (.int x), some (.int (nI (4 * n - k))), some (.long (lN v)), none] [] (hs S) sz 0 0 Q := by
    intro k v hk hv h
    have hg := gcd2 hk hv h
    have hp : 0 < 2 ^ k := Nat.pow_pos (by decide)
    have e1 : u / 2 ^ k = v := by rw [← hv, Nat.mul_div_cancel _ hp]
    have e2 : 16 ^ n / 2 ^ k = 2 ^ (4 * n - k) := by rw [p162, Nat.pow_div hk (by decide)]
    rw [hg, e1, e2] at hQ
    refine J_iload_n (pc := 36) dX10_leastTerms_36 rfl ?_
    refine J_if_ne (pc := 37) (tgt := 45) dX10_leastTerms_37 (by decide) (fun c37 => ?_) (fun c37 => ?_)
    · refine J_lconst (pc := 45) (v := 1) dX10_leastTerms_45 (by decide) ?_
      refine J_iload (pc := 46) dX10_leastTerms_46 rfl ?_
      refine J_lshl (pc := 48) dX10_leastTerms_48 ?_
      refine J_st (st' := [.long (lN (2 ^ (4 * n - k)))]) (by rw [shl_2 _ (by omega)]) ?_
      exact J_lret (pc := 49) rfl rfl dX10_leastTerms_49 (rql hQ (by first | exact (if_pos c37).symm | exact (if_neg c37).symm) rfl)
    · refine J_lload (pc := 40) dX10_leastTerms_40 rfl ?_
      refine J_goto (pc := 42) (tgt := 49) dX10_leastTerms_42 (by decide) ?_
      exact J_lret (pc := 49) rfl rfl dX10_leastTerms_49 (rql hQ (by first | exact (if_pos c37).symm | exact (if_neg c37).symm) rfl)
  refine J_iconst (pc := 0) (v := 4) dX10_leastTerms_0 (by decide) ?_
  refine J_iload_n (pc := 1) dX10_leastTerms_1 rfl ?_
  refine J_imul (pc := 2) dX10_leastTerms_2 ?_
  refine J_t1 (y := nI (4 * n - 0)) (pk_mul 4 n) ?_
  refine J_istore (pc := 3) dX10_leastTerms_3 (by decide) rfl ?_
  refine J_lload_n (pc := 5) dX10_leastTerms_5 rfl ?_
  refine J_lstore (pc := 6) dX10_leastTerms_6 (by decide) rfl ?_
  refine dn_ind (n := 4 * n) (P := fun k => ∀ v, v * 2 ^ k = u → J g mX10_leastTerms 0 [] 8 [some (.long (lN u)), none, some (.int (nI n)), some (.int x), some (.int (nI (4 * n - k))), some (.long (lN v)), none] [] (hs S) sz 0 0 Q) ?_ (fun k hi ih => ?_) 0 (Nat.zero_le _) u (Nat.mul_one u)
  · intro v hv
    refine J_iload (pc := 8) dX10_leastTerms_8 rfl ?_
    refine J_if_le (pc := 10) (tgt := 36) dX10_leastTerms_10 (by decide) (fun c10 => ?_) (fun c10 => absurd (by rw [Nat.sub_self]; decide) c10)
    exact fin (4 * n) v (Nat.le_refl _) hv (Or.inr rfl)
  · intro v hv
    have hv62 : v < 2 ^ 62 := Nat.lt_of_le_of_lt (by rw [← hv]; exact Nat.le_mul_of_pos_right _ (Nat.pow_pos (by decide))) hu
    refine J_iload (pc := 8) dX10_leastTerms_8 rfl ?_
    refine J_if_le (pc := 10) (tgt := 36) dX10_leastTerms_10 (by decide) (fun c10 => absurd c10 (nI_nle (by omega) (by omega))) (fun c10 => ?_)
    refine J_lload (pc := 13) dX10_leastTerms_13 rfl ?_
    refine J_lconst (pc := 15) (v := 1) dX10_leastTerms_15 (by decide) ?_
    refine J_land (pc := 16) dX10_leastTerms_16 ?_
    rw [l_and1 hv62]
    refine J_lconst (pc := 17) (v := 0) dX10_leastTerms_17 (by decide) ?_
    refine J_lcmp (pc := 18) dX10_leastTerms_18 ?_
    refine J_if_ne (pc := 19) (tgt := 36) dX10_leastTerms_19 (by decide) (fun c19 => ?_) (fun c19 => ?_)
    · have h2 : v % 2 = 1 := by
        rcases Nat.mod_two_eq_zero_or_one v with z | z
        · exact absurd (lc_eq.mpr (by rw [z]; rfl)) c19
        · exact z
      exact fin k v (by omega) hv (Or.inl h2)
    · have h2 : v % 2 = 0 := (pk_lEQ (a := v % 2) (b := 0) (by omega) (by omega)).mp (lc_eq.mp c19)
      refine J_lload (pc := 22) dX10_leastTerms_22 rfl ?_
      refine J_ldc2 (pc := 24) (v := 2) dX10_leastTerms_24 kt_X10_378 ?_
      refine J_ldiv (pc := 27) dX10_leastTerms_27 (by decide) ?_
      refine J_st (st' := [.long (lN (v / 2))]) (by rw [show (2 : Int64) = lN 2 from rfl, pk_lDiv (by omega) (by omega) (by omega)]) ?_
      refine J_lstore (pc := 28) dX10_leastTerms_28 (by decide) rfl ?_
      refine J_iinc (pc := 30) (v := -1) dX10_leastTerms_30 rfl (by decide) rfl ?_
      refine J_cg1 (ls' := [some (.long (lN u)), none, some (.int (nI n)), some (.int x), some (.int (nI (4 * n - (k + 1)))), some (.long (lN (v / 2))), none]) (by rw [sb_m1 (show 0 < 4 * n - k by omega), show 4 * n - k - 1 = 4 * n - (k + 1) by omega]; rfl) ?_
      refine J_goto (pc := 33) (tgt := 8) dX10_leastTerms_33 (by decide) ?_
      exact ih (v / 2) (by rw [Nat.pow_succ, Nat.mul_comm (2 ^ k) 2, ← Nat.mul_assoc, Nat.div_mul_cancel (Nat.dvd_of_mod_eq_zero h2)]; exact hv)
theorem r_X10_without {g : Gp} {S : Sx} {a b m : Nat} {d : HD} {wv : Nat → Nat × Nat} {f : Row} (hX : CX S 3 16 17 a b d m wv f) {s n : Nat} {z : Int32} (hs' : s < dNs d) (hn : n ≤ 12) (hz : 0 ≤ z ∧ z ≤ 1) : RT g mX10_without 2 [.ref 0, .int (nI s), .int (nI n), .int z] S (some (.long (if z = 0 then lN ((16 - dTm d s) ^ n / Nat.gcd (16 ^ n) ((16 - dTm d s) ^ n)) else lN (16 ^ n / Nat.gcd (16 ^ n) ((16 - dTm d s) ^ n))))) S := by
  refine RT_ofQ ⟨rfl, rfl⟩ (Nat.le_of_ble_eq_true rfl) (fun sz Q hQ => ?_)
  obtain ⟨hCL, hHL, hLL, hp2, hp3, hHC, hv, hW, hLC, hRC⟩ := id hX
  have n1 : dNs d ≤ 8 := hv.1
  have n2 : dNr d ≤ 10 := hv.2.1
  have n3 : dNp d ≤ 8 := hv.2.2.1
  have t2 : dTm d s ≤ 15 := hv.2.2.2.1 s hs'
  have hp16 := p16_le hn
  have hle : (16 - dTm d s) ^ n ≤ 16 ^ n := Nat.pow_le_pow_left (by omega) n
  refine J_aload_n (pc := 0) dX10_without_0 rfl ?_
  refine J_aload_n (pc := 1) dX10_without_1 rfl ?_
  refine J_getr (pc := 2) dX10_without_2 kc10 fl_X10_27 rfl ?_
  refine J_getpN (pc := 5) dX10_without_5 kc0 fl_X10_54 (by first | exact cvn_p2 (by assumption) | rfl) ?_
  refine J_tr hp2 ?_
  refine J_iload_n (pc := 8) dX10_without_8 rfl ?_
  refine J_cnr (pc := 9) (N := mX1_hasSister) dX10_without_9 ml_X10_195 cf_X1_hasSister cv_X1_hasSister (r_X1_hasSister hHL hHC hv) rfl rfl (Nat.le_of_ble_eq_true rfl) (by decide) (rv_of (ci := 1) (by first | exact hou_n (by assumption) | rfl) rfl rfl) ?_
  refine J_t1 (bI_t (in_nI hs' (by omega))) ?_
  refine J_cvv (pc := 12) (N := mX10_needElement) dX10_without_12 ml_X10_199 cf_X10_needElement cv_X10_needElement r_X10_needElement_ok rfl rfl (Nat.le_of_ble_eq_true rfl) (by decide) (rv_of (ci := 10) rfl rfl rfl) ?_
  refine J_aload_n (pc := 15) dX10_without_15 rfl ?_
  refine J_iload_n (pc := 16) dX10_without_16 rfl ?_
  refine J_iconst (pc := 17) (v := 0) dX10_without_17 (by decide) ?_
  refine J_bipush (pc := 18) (v := 12) dX10_without_18 (by decide) ?_
  refine J_csr (pc := 20) (N := mX10_isWithin) dX10_without_20 ml_X10_177 cf_X10_isWithin cs_X10_isWithin r_X10_isWithin rfl rfl (Nat.le_of_ble_eq_true rfl) (by decide) ?_
  refine J_ifp_eq (pc := 23) (tgt := 39) dX10_without_23 (by decide) (fun c23 => absurd (show 0 ≤ nI n ∧ nI n ≤ 12 from ⟨nI_pos' (by omega), nI_le (b := 12) hn (by decide)⟩) c23) (fun c23 => ?_)
  refine J_iload_n (pc := 26) dX10_without_26 rfl ?_
  refine J_iconst (pc := 27) (v := 0) dX10_without_27 (by decide) ?_
  refine J_iconst (pc := 28) (v := 1) dX10_without_28 (by decide) ?_
  refine J_csr (pc := 29) (N := mX10_isWithin) dX10_without_29 ml_X10_177 cf_X10_isWithin cs_X10_isWithin r_X10_isWithin rfl rfl (Nat.le_of_ble_eq_true rfl) (by decide) ?_
  refine J_ifp_eq (pc := 32) (tgt := 39) dX10_without_32 (by decide) (fun c32 => absurd hz c32) (fun c32 => ?_)
  refine J_iconst (pc := 35) (v := 1) dX10_without_35 (by decide) ?_
  refine J_goto (pc := 36) (tgt := 40) dX10_without_36 (by decide) ?_
  refine J_cvv (pc := 40) (N := mX10_needArgument) dX10_without_40 ml_X10_181 cf_X10_needArgument cv_X10_needArgument r_X10_needArgument_ok rfl rfl (Nat.le_of_ble_eq_true rfl) (by decide) (rv_of (ci := 10) rfl rfl rfl) ?_
  refine J_lconst (pc := 43) (v := 1) dX10_without_43 (by decide) ?_
  refine J_lstore (pc := 44) dX10_without_44 (by decide) rfl ?_
  refine J_iconst (pc := 46) (v := 0) dX10_without_46 (by decide) ?_
  refine J_istore (pc := 47) dX10_without_47 (by decide) rfl ?_
  show J g mX10_without 2 [] 49 [some (.ref 0), some (.int (nI s)), some (.int (nI n)), some (.int z), some (.long 1), none, some (.int 0)] [] (hs S) sz 0 0 Q
  refine dn_ind (n := n) (P := fun i => J g mX10_without 2 [] 49 [some (.ref 0), some (.int (nI s)), some (.int (nI n)), some (.int z), some (.long (pwL (lN (16 - dTm d s)) i)), none, some (.int (ix i))] [] (hs S) sz 0 0 Q) ?_ (fun i hi ih => ?_) 0 (Nat.zero_le _)
  · refine J_iload (pc := 49) dX10_without_49 rfl ?_
    refine J_iload_n (pc := 51) dX10_without_51 rfl ?_
    refine J_icmp_ge (pc := 52) (tgt := 82) dX10_without_52 (by decide) (fun c52 => ?_) (fun c52 => absurd (ix_ge rfl) c52)
    refine J_lload (pc := 82) dX10_without_82 rfl ?_
    refine J_st (st' := [.long (lN ((16 - dTm d s) ^ n))]) (by rw [pwL_N _ (by omega)]) ?_
    refine J_iload_n (pc := 84) dX10_without_84 rfl ?_
    refine J_iload_n (pc := 85) dX10_without_85 rfl ?_
    refine J_csr (pc := 86) (N := mX10_leastTerms) dX10_without_86 ml_X10_301 cf_X10_leastTerms cs_X10_leastTerms (r_X10_leastTerms (by omega) hn) rfl rfl (Nat.le_of_ble_eq_true rfl) (by decide) ?_
    exact J_lret (pc := 89) rfl rfl dX10_without_89 (rql hQ rfl rfl)
  · refine J_iload (pc := 49) dX10_without_49 rfl ?_
    refine J_iload_n (pc := 51) dX10_without_51 rfl ?_
    refine J_icmp_ge (pc := 52) (tgt := 82) dX10_without_52 (by decide) (fun c52 => absurd c52 (ix_lt rfl hi (by omega))) (fun c52 => ?_)
    refine J_lload (pc := 55) dX10_without_55 rfl ?_
    refine J_bipush (pc := 57) (v := 16) dX10_without_57 (by decide) ?_
    refine J_aload_n (pc := 59) dX10_without_59 rfl ?_
    refine J_getr (pc := 60) dX10_without_60 kc10 fl_X10_27 rfl ?_
    refine J_getpN (pc := 63) dX10_without_63 kc0 fl_X10_54 (by first | exact cvn_p2 (by assumption) | rfl) ?_
    refine J_tr hp2 ?_
    refine J_getrN (pc := 66) dX10_without_66 kc1 fl_X10_202 (by first | exact hou_r0 (by assumption) | rfl) ?_
    refine J_iload_n (pc := 69) dX10_without_69 rfl ?_
    refine J_il (pc := 70) dX10_without_70 (by first | exact hou_a0 (by assumption) | rfl) (by first | with_reducible rfl | assumption | exact ix_nI _ | rfl) ⟨by first | decide | omega, by decide⟩ ?_
    refine J_t1 ((hHC.2.2.2.1 _ hs').1) ?_
    refine J_isub (pc := 71) dX10_without_71 ?_
    refine J_i2l (pc := 72) dX10_without_72 ?_
    refine J_st (st' := [.long (lN (16 - dTm d s)), .long (pwL (lN (16 - dTm d s)) i)]) (by rw [show (16 - nI (dTm d s) : Int32) = nI (16 - dTm d s) from pk_sub (a := 16) (by omega), nI_l (by omega)]) ?_
    refine J_lmul (pc := 73) dX10_without_73 ?_
    refine J_lstore (pc := 74) dX10_without_74 (by decide) rfl ?_
    refine J_iinc (pc := 76) (v := 1) dX10_without_76 rfl (by decide) rfl ?_
    refine J_goto (pc := 79) (tgt := 49) dX10_without_79 (by decide) ?_
    exact ih
theorem lmax_e (x y : Int64) : (if y < x then x else y) = if x ≤ y then y else x := by
  by_cases h : x ≤ y
  · rw [if_pos h, if_neg (Int64.not_lt.mpr h)]
  · rw [if_neg h, if_pos (Int64.not_le.mp h)]
theorem r_X10_bestMean {g : Gp} {S : Sx} {a b m : Nat} {d : HD} {wv : Nat → Nat × Nat} {f : Row} (hX : CX S 3 16 17 a b d m wv f) {r : Nat} (hr : r < dNr d) (hk : f (16 + r) ≠ -1) : ∀ (n : Nat), n ≤ 6 → ∀ (dy lp dd : Int32), RW g mX10_bestMean (4 + n) [.ref 0, .int (nI r), .int dy, .int lp, .int dd, .int (nI n)] S (some (.long (gbm (pwA d m wv f r) (nI (dTm d (dOw d r))) n dy lp dd))) S := by
  obtain ⟨hCL, hHL, hLL, hp2, hp3, hHC, hv, hW, hLC, hRC⟩ := id hX
  have n1 : dNs d ≤ 8 := hv.1
  have n2 : dNr d ≤ 10 := hv.2.1
  have n3 : dNp d ≤ 8 := hv.2.2.1
  have ho : dOw d r < dNs d := (hv.2.2.2.2.2.1 r hr).1
  have hpx : ∀ a b c, pwX d m wv f r a b c = pwA d m wv f r a b c := fun a b c => if_pos hk
  intro n
  induction n with
  | zero =>
    intro _ dy lp dd
    refine RW_ofQ ⟨rfl, rfl⟩ (Nat.le_of_ble_eq_true rfl) (fun T sz Q hQ => ?_)
    refine J_aload_n (pc := 0) dX10_bestMean_0 rfl ?_
    refine J_getr (pc := 1) dX10_bestMean_1 kc10 fl_X10_27 rfl ?_
    refine J_iload_n (pc := 4) dX10_bestMean_4 rfl ?_
    refine J_iload_n (pc := 5) dX10_bestMean_5 rfl ?_
    refine J_iload_n (pc := 6) dX10_bestMean_6 rfl ?_
    refine J_iload (pc := 7) dX10_bestMean_7 rfl ?_
    refine J_cnw (pc := 9) (N := mX0_powerIf) dX10_bestMean_9 ml_X10_372 cf_X0_powerIf cv_X0_powerIf (r_X0_powerIf hX hr) rfl rfl (Nat.le_of_ble_eq_true rfl) (by omega) (rv_of (ci := 0) (by first | exact cvn_n (by assumption) | rfl) rfl rfl) ?_
    intro T
    rw [hpx]
    refine J_i2l (pc := 12) dX10_bestMean_12 ?_
    refine J_iconst (pc := 13) (v := 4) dX10_bestMean_13 (by decide) ?_
    refine J_iload (pc := 14) dX10_bestMean_14 rfl ?_
    refine J_imul (pc := 16) dX10_bestMean_16 ?_
    refine J_lshl (pc := 17) dX10_bestMean_17 ?_
    refine J_lstore (pc := 18) dX10_bestMean_18 (by decide) rfl ?_
    refine J_iload (pc := 20) dX10_bestMean_20 rfl ?_
    refine J_if_gt (pc := 22) (tgt := 28) dX10_bestMean_22 (by decide) (fun c22 => absurd c22 (by decide)) (fun c22 => ?_)
    refine J_lload (pc := 25) dX10_bestMean_25 rfl ?_
    exact J_lret (pc := 27) rfl rfl dX10_bestMean_27 (rqlw hQ rfl rfl)
  | succ n ih =>
    intro hn dy lp dd
    refine RW_ofQ ⟨rfl, rfl⟩ (Nat.le_of_ble_eq_true rfl) (fun T sz Q hQ => ?_)
    refine J_aload_n (pc := 0) dX10_bestMean_0 rfl ?_
    refine J_getr (pc := 1) dX10_bestMean_1 kc10 fl_X10_27 rfl ?_
    refine J_iload_n (pc := 4) dX10_bestMean_4 rfl ?_
    refine J_iload_n (pc := 5) dX10_bestMean_5 rfl ?_
    refine J_iload_n (pc := 6) dX10_bestMean_6 rfl ?_
    refine J_iload (pc := 7) dX10_bestMean_7 rfl ?_
    refine J_cnw (pc := 9) (N := mX0_powerIf) dX10_bestMean_9 ml_X10_372 cf_X0_powerIf cv_X0_powerIf (r_X0_powerIf hX hr) rfl rfl (Nat.le_of_ble_eq_true rfl) (by omega) (rv_of (ci := 0) (by first | exact cvn_n (by assumption) | rfl) rfl rfl) ?_
    intro T
    rw [hpx]
    refine J_i2l (pc := 12) dX10_bestMean_12 ?_
    refine J_iconst (pc := 13) (v := 4) dX10_bestMean_13 (by decide) ?_
    refine J_iload (pc := 14) dX10_bestMean_14 rfl ?_
    refine J_imul (pc := 16) dX10_bestMean_16 ?_
    refine J_lshl (pc := 17) dX10_bestMean_17 ?_
    refine J_lstore (pc := 18) dX10_bestMean_18 (by decide) rfl ?_
    refine J_iload (pc := 20) dX10_bestMean_20 rfl ?_
    refine J_if_gt (pc := 22) (tgt := 28) dX10_bestMean_22 (by decide) (fun c22 => ?_) (fun c22 => absurd (Int32.not_le.mp (nI_nle (by omega) (by omega))) c22)
    refine J_aload_n (pc := 28) dX10_bestMean_28 rfl ?_
    refine J_getr (pc := 29) dX10_bestMean_29 kc10 fl_X10_27 rfl ?_
    refine J_getpN (pc := 32) dX10_bestMean_32 kc0 fl_X10_54 (by first | exact cvn_p2 (by assumption) | rfl) ?_
    refine J_tr hp2 ?_
    refine J_getrN (pc := 35) dX10_bestMean_35 kc1 fl_X10_202 (by first | exact hou_r0 (by assumption) | rfl) ?_
    refine J_aload_n (pc := 38) dX10_bestMean_38 rfl ?_
    refine J_getr (pc := 39) dX10_bestMean_39 kc10 fl_X10_27 rfl ?_
    refine J_getpN (pc := 42) dX10_bestMean_42 kc0 fl_X10_54 (by first | exact cvn_p2 (by assumption) | rfl) ?_
    refine J_tr hp2 ?_
    refine J_getrN (pc := 45) dX10_bestMean_45 kc1 fl_X10_218 (by first | exact hou_r3 (by assumption) | rfl) ?_
    refine J_iload_n (pc := 48) dX10_bestMean_48 rfl ?_
    refine J_il (pc := 49) dX10_bestMean_49 (by first | exact hou_a3 (by assumption) | rfl) (by first | with_reducible rfl | assumption | exact ix_nI _ | rfl) ⟨by first | decide | omega, by decide⟩ ?_
    refine J_t1 ((hHC.2.2.2.2.1 _ hr).1) ?_
    refine J_il (pc := 50) dX10_bestMean_50 (by first | exact hou_a0 (by assumption) | rfl) (by first | with_reducible rfl | assumption | exact ix_nI _ | rfl) ⟨by first | decide | omega, by decide⟩ ?_
    refine J_t1 ((hHC.2.2.2.1 _ ho).1) ?_
    refine J_istore (pc := 51) dX10_bestMean_51 (by decide) rfl ?_
    refine J_iload (pc := 53) dX10_bestMean_53 rfl ?_
    refine J_i2l (pc := 55) dX10_bestMean_55 ?_
    refine J_aload_n (pc := 56) dX10_bestMean_56 rfl ?_
    refine J_iload_n (pc := 57) dX10_bestMean_57 rfl ?_
    refine J_iload_n (pc := 58) dX10_bestMean_58 rfl ?_
    refine J_iconst (pc := 59) (v := 2) dX10_bestMean_59 (by decide) ?_
    refine J_idiv (pc := 60) dX10_bestMean_60 (by decide) ?_
    refine J_iconst (pc := 61) (v := 1) dX10_bestMean_61 (by decide) ?_
    refine J_iadd (pc := 62) dX10_bestMean_62 ?_
    refine J_iload_n (pc := 63) dX10_bestMean_63 rfl ?_
    refine J_iconst (pc := 64) (v := 1) dX10_bestMean_64 (by decide) ?_
    refine J_iadd (pc := 65) dX10_bestMean_65 ?_
    refine J_iload (pc := 66) dX10_bestMean_66 rfl ?_
    refine J_iconst (pc := 68) (v := 1) dX10_bestMean_68 (by decide) ?_
    refine J_iadd (pc := 69) dX10_bestMean_69 ?_
    refine J_iload (pc := 70) dX10_bestMean_70 rfl ?_
    refine J_iconst (pc := 72) (v := 1) dX10_bestMean_72 (by decide) ?_
    refine J_isub (pc := 73) dX10_bestMean_73 ?_
    refine J_t1 (y := nI n) (nI_pred n) ?_
    refine J_cvw (pc := 74) (N := mX10_bestMean) dX10_bestMean_74 ml_X10_297 cf_X10_bestMean cv_X10_bestMean (ih (by omega) _ _ _) rfl rfl (Nat.le_of_ble_eq_true rfl) (by omega) (rv_of (ci := 10) rfl rfl rfl) ?_
    intro T
    refine J_lmul (pc := 77) dX10_bestMean_77 ?_
    refine J_bipush (pc := 78) (v := 16) dX10_bestMean_78 (by decide) ?_
    refine J_iload (pc := 80) dX10_bestMean_80 rfl ?_
    refine J_isub (pc := 82) dX10_bestMean_82 ?_
    refine J_i2l (pc := 83) dX10_bestMean_83 ?_
    refine J_aload_n (pc := 84) dX10_bestMean_84 rfl ?_
    refine J_iload_n (pc := 85) dX10_bestMean_85 rfl ?_
    refine J_iload_n (pc := 86) dX10_bestMean_86 rfl ?_
    refine J_iconst (pc := 87) (v := 1) dX10_bestMean_87 (by decide) ?_
    refine J_iadd (pc := 88) dX10_bestMean_88 ?_
    refine J_iload_n (pc := 89) dX10_bestMean_89 rfl ?_
    refine J_iload (pc := 90) dX10_bestMean_90 rfl ?_
    refine J_iconst (pc := 92) (v := 1) dX10_bestMean_92 (by decide) ?_
    refine J_iadd (pc := 93) dX10_bestMean_93 ?_
    refine J_iload (pc := 94) dX10_bestMean_94 rfl ?_
    refine J_iconst (pc := 96) (v := 1) dX10_bestMean_96 (by decide) ?_
    refine J_isub (pc := 97) dX10_bestMean_97 ?_
    refine J_t1 (y := nI n) (nI_pred n) ?_
    refine J_cvw (pc := 98) (N := mX10_bestMean) dX10_bestMean_98 ml_X10_297 cf_X10_bestMean cv_X10_bestMean (ih (by omega) _ _ _) rfl rfl (Nat.le_of_ble_eq_true rfl) (by omega) (rv_of (ci := 10) rfl rfl rfl) ?_
    intro T
    refine J_lmul (pc := 101) dX10_bestMean_101 ?_
    refine J_ladd (pc := 102) dX10_bestMean_102 ?_
    refine J_lstore (pc := 103) dX10_bestMean_103 (by decide) rfl ?_
    refine J_lload (pc := 105) dX10_bestMean_105 rfl ?_
    refine J_lload (pc := 107) dX10_bestMean_107 rfl ?_
    refine J_mmaxl (pc := 109) dX10_bestMean_109 ml_X10_375 (Nat.le_of_ble_eq_true rfl) ?_
    exact J_lret (pc := 112) rfl rfl dX10_bestMean_112 (rqlw hQ (lmax_e _ _) rfl)
theorem r_X10_best_no {g : Gp} {S : Sx} {a b m : Nat} {d : HD} {wv : Nat → Nat × Nat} {f : Row} (hX : CX S 3 16 17 a b d m wv f) {r n : Nat} {z : Int32} (hr : r < dNr d) (hn : n ≤ 6) (hz : 0 ≤ z ∧ z ≤ 1) (hk : f (16 + r) = -1) : RT g mX10_best 2 [.ref 0, .int (nI r), .int (nI n), .int z] S (some (.long z.toInt64)) S := by
  refine RT_ofQ ⟨rfl, rfl⟩ (Nat.le_of_ble_eq_true rfl) (fun sz Q hQ => ?_)
  obtain ⟨hCL, hHL, hLL, hp2, hp3, hHC, hv, hW, hLC, hRC⟩ := id hX
  have n1 : dNs d ≤ 8 := hv.1
  have n2 : dNr d ≤ 10 := hv.2.1
  have n3 : dNp d ≤ 8 := hv.2.2.1
  refine J_aload_n (pc := 0) dX10_best_0 rfl ?_
  refine J_aload_n (pc := 1) dX10_best_1 rfl ?_
  refine J_getr (pc := 2) dX10_best_2 kc10 fl_X10_27 rfl ?_
  refine J_getpN (pc := 5) dX10_best_5 kc0 fl_X10_54 (by first | exact cvn_p2 (by assumption) | rfl) ?_
  refine J_tr hp2 ?_
  refine J_iload_n (pc := 8) dX10_best_8 rfl ?_
  refine J_cnr (pc := 9) (N := mX1_hasRelic) dX10_best_9 ml_X10_215 cf_X1_hasRelic cv_X1_hasRelic (r_X1_hasRelic hHL hHC hv) rfl rfl (Nat.le_of_ble_eq_true rfl) (by decide) (rv_of (ci := 1) (by first | exact hou_n (by assumption) | rfl) rfl rfl) ?_
  refine J_t1 (bI_t (in_nI hr (by omega))) ?_
  refine J_cvv (pc := 12) (N := mX10_needElement) dX10_best_12 ml_X10_199 cf_X10_needElement cv_X10_needElement r_X10_needElement_ok rfl rfl (Nat.le_of_ble_eq_true rfl) (by decide) (rv_of (ci := 10) rfl rfl rfl) ?_
  refine J_aload_n (pc := 15) dX10_best_15 rfl ?_
  refine J_iload_n (pc := 16) dX10_best_16 rfl ?_
  refine J_iconst (pc := 17) (v := 0) dX10_best_17 (by decide) ?_
  refine J_bipush (pc := 18) (v := 6) dX10_best_18 (by decide) ?_
  refine J_csr (pc := 20) (N := mX10_isWithin) dX10_best_20 ml_X10_177 cf_X10_isWithin cs_X10_isWithin r_X10_isWithin rfl rfl (Nat.le_of_ble_eq_true rfl) (by decide) ?_
  refine J_ifp_eq (pc := 23) (tgt := 39) dX10_best_23 (by decide) (fun c23 => absurd (show 0 ≤ nI n ∧ nI n ≤ 6 from ⟨nI_pos' (by omega), nI_le (b := 6) hn (by decide)⟩) c23) (fun c23 => ?_)
  refine J_iload_n (pc := 26) dX10_best_26 rfl ?_
  refine J_iconst (pc := 27) (v := 0) dX10_best_27 (by decide) ?_
  refine J_iconst (pc := 28) (v := 1) dX10_best_28 (by decide) ?_
  refine J_csr (pc := 29) (N := mX10_isWithin) dX10_best_29 ml_X10_177 cf_X10_isWithin cs_X10_isWithin r_X10_isWithin rfl rfl (Nat.le_of_ble_eq_true rfl) (by decide) ?_
  refine J_ifp_eq (pc := 32) (tgt := 39) dX10_best_32 (by decide) (fun c32 => absurd hz c32) (fun c32 => ?_)
  refine J_iconst (pc := 35) (v := 1) dX10_best_35 (by decide) ?_
  refine J_goto (pc := 36) (tgt := 40) dX10_best_36 (by decide) ?_
  refine J_cvv (pc := 40) (N := mX10_needArgument) dX10_best_40 ml_X10_181 cf_X10_needArgument cv_X10_needArgument r_X10_needArgument_ok rfl rfl (Nat.le_of_ble_eq_true rfl) (by decide) (rv_of (ci := 10) rfl rfl rfl) ?_
  refine J_aload_n (pc := 43) dX10_best_43 rfl ?_
  refine J_getr (pc := 44) dX10_best_44 kc10 fl_X10_27 rfl ?_
  refine J_iload_n (pc := 47) dX10_best_47 rfl ?_
  refine J_cnr (pc := 48) (N := mX0_isKept) dX10_best_48 ml_X10_227 cf_X0_isKept cv_X0_isKept (r_X0_isKept hX hr) rfl rfl (Nat.le_of_ble_eq_true rfl) (by decide) (rv_of (ci := 0) (by first | exact cvn_n (by assumption) | rfl) rfl rfl) ?_
  refine J_ifp_ne (pc := 51) (tgt := 57) dX10_best_51 (by decide) (fun c51 => absurd hk c51) (fun c51 => ?_)
  refine J_iload_n (pc := 54) dX10_best_54 rfl ?_
  refine J_i2l (pc := 55) dX10_best_55 ?_
  exact J_lret (pc := 56) rfl rfl dX10_best_56 (rql hQ rfl rfl)
/-- the mean of the best, in parts of 16^n -/
def bsC (d : HD) (m : Nat) (wv : Nat → Nat × Nat) (f : Row) (r n : Nat) : Nat := gN (fun a b c => (pwA d m wv f r a b c).toNatClampNeg) (dTm d (dOw d r)) n (f (16 + r)) (f (8 + dOw d r)) (f 44)
theorem r_X10_best {g : Gp} {S : Sx} {a b m : Nat} {d : HD} {wv : Nat → Nat × Nat} {f : Row} (hX : CX S 3 16 17 a b d m wv f) {r n : Nat} {z : Int32} (hr : r < dNr d) (hn : n ≤ 6) (hz : 0 ≤ z ∧ z ≤ 1) (hk : f (16 + r) ≠ -1) : RW g mX10_best 11 [.ref 0, .int (nI r), .int (nI n), .int z] S (some (.long (if z = 0 then lN (bsC d m wv f r n / Nat.gcd (16 ^ n) (bsC d m wv f r n)) else lN (16 ^ n / Nat.gcd (16 ^ n) (bsC d m wv f r n))))) S := by
  refine RW_ofQ ⟨rfl, rfl⟩ (Nat.le_of_ble_eq_true rfl) (fun T sz Q hQ => ?_)
  obtain ⟨hCL, hHL, hLL, hp2, hp3, hHC, hv, hW, hLC, hRC⟩ := id hX
  have n1 : dNs d ≤ 8 := hv.1
  have n2 : dNr d ≤ 10 := hv.2.1
  have n3 : dNp d ≤ 8 := hv.2.2.1
  have ho : dOw d r < dNs d := (hv.2.2.2.2.2.1 r hr).1
  have t2 : dTm d (dOw d r) ≤ 15 := hv.2.2.2.1 (dOw d r) ho
  have hle := gN_le (P := fun a b c => (pwA d m wv f r a b c).toNatClampNeg) (fun a b c => (clp_N _).2) t2 n (f (16 + r)) (f (8 + dOw d r)) (f 44)
  have hp16 : 16 ^ n ≤ 2 ^ 48 := p16_le (by omega)
  have hgb : gbm (pwA d m wv f r) (nI (dTm d (dOw d r))) n (f (16 + r)) (f (8 + dOw d r)) (f 44) = lN (bsC d m wv f r n) := gbm_N (fun a b c => (clp_N _).1) (fun a b c => (clp_N _).2) t2 n (by omega) _ _ _
  have hb62 : bsC d m wv f r n < 2 ^ 62 := by
    have : bsC d m wv f r n ≤ 99 * 16 ^ n := hle
    omega
  refine J_aload_n (pc := 0) dX10_best_0 rfl ?_
  refine J_aload_n (pc := 1) dX10_best_1 rfl ?_
  refine J_getr (pc := 2) dX10_best_2 kc10 fl_X10_27 rfl ?_
  refine J_getpN (pc := 5) dX10_best_5 kc0 fl_X10_54 (by first | exact cvn_p2 (by assumption) | rfl) ?_
  refine J_tr hp2 ?_
  refine J_iload_n (pc := 8) dX10_best_8 rfl ?_
  refine J_cnr (pc := 9) (N := mX1_hasRelic) dX10_best_9 ml_X10_215 cf_X1_hasRelic cv_X1_hasRelic (r_X1_hasRelic (S := w1 S T) hHL hHC hv) rfl rfl (Nat.le_of_ble_eq_true rfl) (by decide) (rv_of (ci := 1) (by first | exact hou_n (by assumption) | rfl) rfl rfl) ?_
  refine J_t1 (bI_t (in_nI hr (by omega))) ?_
  refine J_cvv (pc := 12) (N := mX10_needElement) dX10_best_12 ml_X10_199 cf_X10_needElement cv_X10_needElement r_X10_needElement_ok rfl rfl (Nat.le_of_ble_eq_true rfl) (by decide) (rv_of (ci := 10) rfl rfl rfl) ?_
  refine J_aload_n (pc := 15) dX10_best_15 rfl ?_
  refine J_iload_n (pc := 16) dX10_best_16 rfl ?_
  refine J_iconst (pc := 17) (v := 0) dX10_best_17 (by decide) ?_
  refine J_bipush (pc := 18) (v := 6) dX10_best_18 (by decide) ?_
  refine J_csr (pc := 20) (N := mX10_isWithin) dX10_best_20 ml_X10_177 cf_X10_isWithin cs_X10_isWithin r_X10_isWithin rfl rfl (Nat.le_of_ble_eq_true rfl) (by decide) ?_
  refine J_ifp_eq (pc := 23) (tgt := 39) dX10_best_23 (by decide) (fun c23 => absurd (show 0 ≤ nI n ∧ nI n ≤ 6 from ⟨nI_pos' (by omega), nI_le (b := 6) hn (by decide)⟩) c23) (fun c23 => ?_)
  refine J_iload_n (pc := 26) dX10_best_26 rfl ?_
  refine J_iconst (pc := 27) (v := 0) dX10_best_27 (by decide) ?_
  refine J_iconst (pc := 28) (v := 1) dX10_best_28 (by decide) ?_
  refine J_csr (pc := 29) (N := mX10_isWithin) dX10_best_29 ml_X10_177 cf_X10_isWithin cs_X10_isWithin r_X10_isWithin rfl rfl (Nat.le_of_ble_eq_true rfl) (by decide) ?_
  refine J_ifp_eq (pc := 32) (tgt := 39) dX10_best_32 (by decide) (fun c32 => absurd hz c32) (fun c32 => ?_)
  refine J_iconst (pc := 35) (v := 1) dX10_best_35 (by decide) ?_
  refine J_goto (pc := 36) (tgt := 40) dX10_best_36 (by decide) ?_
  refine J_cvv (pc := 40) (N := mX10_needArgument) dX10_best_40 ml_X10_181 cf_X10_needArgument cv_X10_needArgument r_X10_needArgument_ok rfl rfl (Nat.le_of_ble_eq_true rfl) (by decide) (rv_of (ci := 10) rfl rfl rfl) ?_
  refine J_aload_n (pc := 43) dX10_best_43 rfl ?_
  refine J_getr (pc := 44) dX10_best_44 kc10 fl_X10_27 rfl ?_
  refine J_iload_n (pc := 47) dX10_best_47 rfl ?_
  refine J_cnr (pc := 48) (N := mX0_isKept) dX10_best_48 ml_X10_227 cf_X0_isKept cv_X0_isKept (r_X0_isKept (S := w1 S T) hX hr) rfl rfl (Nat.le_of_ble_eq_true rfl) (by decide) (rv_of (ci := 0) (by first | exact cvn_n (by assumption) | rfl) rfl rfl) ?_
  refine J_ifp_ne (pc := 51) (tgt := 57) dX10_best_51 (by decide) (fun c51 => ?_) (fun c51 => absurd hk c51)
  refine J_aload_n (pc := 57) dX10_best_57 rfl ?_
  refine J_getr (pc := 58) dX10_best_58 kc10 fl_X10_27 rfl ?_
  refine J_getrN (pc := 61) dX10_best_61 kc0 fl_X10_146 (by first | exact cvn_r0 (by assumption) | rfl) ?_
  refine J_bipush (pc := 64) (v := 15) dX10_best_64 (by decide) ?_
  refine J_aload_n (pc := 66) dX10_best_66 rfl ?_
  refine J_getr (pc := 67) dX10_best_67 kc10 fl_X10_27 rfl ?_
  refine J_getpN (pc := 70) dX10_best_70 kc0 fl_X10_54 (by first | exact cvn_p2 (by assumption) | rfl) ?_
  refine J_tr hp2 ?_
  refine J_getrN (pc := 73) dX10_best_73 kc1 fl_X10_218 (by first | exact hou_r3 (by assumption) | rfl) ?_
  refine J_iload_n (pc := 76) dX10_best_76 rfl ?_
  refine J_il (pc := 77) dX10_best_77 (by first | exact hou_a3 (by assumption) | rfl) (by first | with_reducible rfl | assumption | exact ix_nI _ | rfl) ⟨by first | decide | omega, by decide⟩ ?_
  refine J_t1 ((hHC.2.2.2.2.1 _ hr).1) ?_
  refine J_iadd (pc := 78) dX10_best_78 ?_
  refine J_il (pc := 79) dX10_best_79 (by first | exact cvn_e (by assumption) | rfl) (by first | exact nI_add 15 _ | (rw [ix_nI]; exact nI_add 15 _)) ⟨by first | decide | omega, by decide⟩ ?_
  refine J_t1 (hRC.2.2.2.2.2.2.1 _ ho) ?_
  refine J_istore (pc := 80) dX10_best_80 (by decide) rfl ?_
  refine J_aload_n (pc := 82) dX10_best_82 rfl ?_
  refine J_iload_n (pc := 83) dX10_best_83 rfl ?_
  refine J_aload_n (pc := 84) dX10_best_84 rfl ?_
  refine J_getr (pc := 85) dX10_best_85 kc10 fl_X10_27 rfl ?_
  refine J_getrN (pc := 88) dX10_best_88 kc0 fl_X10_146 (by first | exact cvn_r0 (by assumption) | rfl) ?_
  refine J_iconst (pc := 91) (v := 5) dX10_best_91 (by decide) ?_
  refine J_iload_n (pc := 92) dX10_best_92 rfl ?_
  refine J_iadd (pc := 93) dX10_best_93 ?_
  refine J_il (pc := 94) dX10_best_94 (by first | exact cvn_e (by assumption) | rfl) (by first | exact nI_add 5 _ | (rw [ix_nI]; exact nI_add 5 _)) ⟨by first | decide | omega, by decide⟩ ?_
  refine J_t1 (hRC.2.2.2.2.2.1 _ hr hk) ?_
  refine J_iload (pc := 95) dX10_best_95 rfl ?_
  refine J_aload_n (pc := 97) dX10_best_97 rfl ?_
  refine J_getr (pc := 98) dX10_best_98 kc10 fl_X10_27 rfl ?_
  refine J_getrN (pc := 101) dX10_best_101 kc0 fl_X10_146 (by first | exact cvn_r0 (by assumption) | rfl) ?_
  refine J_iconst (pc := 104) (v := 0) dX10_best_104 (by decide) ?_
  refine J_il (pc := 105) dX10_best_105 (by first | exact cvn_e (by assumption) | rfl) (rfl : (0 : Int32) = nI 0) ⟨by first | decide | omega, by decide⟩ ?_
  refine J_t1 (hRC.1) ?_
  refine J_iload_n (pc := 106) dX10_best_106 rfl ?_
  refine J_cvw (pc := 107) (N := mX10_bestMean) dX10_best_107 ml_X10_297 cf_X10_bestMean cv_X10_bestMean (r_X10_bestMean hX hr hk n hn _ _ _) rfl rfl (Nat.le_of_ble_eq_true rfl) (by omega) (rv_of (ci := 10) rfl rfl rfl) ?_
  intro T
  rw [hgb]
  refine J_lstore (pc := 110) dX10_best_110 (by decide) rfl ?_
  refine J_lload (pc := 112) dX10_best_112 rfl ?_
  refine J_iload_n (pc := 114) dX10_best_114 rfl ?_
  refine J_iload_n (pc := 115) dX10_best_115 rfl ?_
  refine J_csr (pc := 116) (N := mX10_leastTerms) dX10_best_116 ml_X10_301 cf_X10_leastTerms cs_X10_leastTerms (r_X10_leastTerms hb62 (by omega)) rfl rfl (Nat.le_of_ble_eq_true rfl) (by decide) ?_
  exact J_lret (pc := 119) rfl rfl dX10_best_119 (rqlw hQ rfl rfl)
