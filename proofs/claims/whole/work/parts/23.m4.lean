theorem r_X11_has {g : Gp} {S : Sx} {b : Int32} {k : Int32} : RT g mX11_has 0 [.int b, .int k] S (some (.int (bI (decide (b >>> (k &&& 31) &&& 1 = 1))))) S := by
  refine RT_ofQ ⟨rfl, rfl⟩ (Nat.le_of_ble_eq_true rfl) (fun sz Q hQ => ?_)
  refine J_iload_n (pc := 0) dX11_has_0 rfl ?_
  refine J_iload_n (pc := 1) dX11_has_1 rfl ?_
  refine J_ishr (pc := 2) dX11_has_2 ?_
  refine J_iconst (pc := 3) (v := 1) dX11_has_3 (by decide) ?_
  refine J_iand (pc := 4) dX11_has_4 ?_
  refine J_iconst (pc := 5) (v := 1) dX11_has_5 (by decide) ?_
  refine J_icmp_ne (pc := 6) (tgt := 13) dX11_has_6 (by decide) (fun c6 => ?_) (fun c6 => ?_)
  · refine J_iconst (pc := 13) (v := 0) dX11_has_13 (by decide) ?_
    exact J_iret (pc := 14) rfl rfl rfl dX11_has_14 (rq hQ (by first | rfl | simp [bI, *] | simp_all [bI]) rfl)
  · refine J_iconst (pc := 9) (v := 1) dX11_has_9 (by decide) ?_
    refine J_goto (pc := 10) (tgt := 14) dX11_has_10 (by decide) ?_
    exact J_iret (pc := 14) rfl rfl rfl dX11_has_14 (rq hQ (by first | rfl | simp [bI, *] | simp_all [bI]) rfl)
theorem r_X11_isKept {g : Gp} {S : Sx} {a r : Nat} (ha : lay a = some (.inr (0, 45, 0, 0))) (hr : r < 10) : RT g mX11_isKept 0 [.ref a, .int (nI r)] S (some (.int (bI (decide (sa S a (16 + r) ≠ -1))))) S := by
  refine RT_ofQ ⟨rfl, rfl⟩ (Nat.le_of_ble_eq_true rfl) (fun sz Q hQ => ?_)
  refine J_aload_n (pc := 0) dX11_isKept_0 rfl ?_
  refine J_bipush (pc := 1) (v := 16) dX11_isKept_1 (by decide) ?_
  refine J_iload_n (pc := 3) dX11_isKept_3 rfl ?_
  refine J_iadd (pc := 4) dX11_isKept_4 ?_
  refine J_il (pc := 5) dX11_isKept_5 (by first | rfl | assumption) (by first | exact nI_add 16 _ | (rw [ix_nI]; exact nI_add 16 _)) ⟨by first | decide | omega, by decide⟩ ?_
  refine J_iconst (pc := 6) (v := -1) dX11_isKept_6 (by decide) ?_
  refine J_icmp_eq (pc := 7) (tgt := 14) dX11_isKept_7 (by decide) (fun c7 => ?_) (fun c7 => ?_)
  · refine J_iconst (pc := 14) (v := 0) dX11_isKept_14 (by decide) ?_
    exact J_iret (pc := 15) rfl rfl rfl dX11_isKept_15 (rq hQ (by first | rfl | simp [bI, *] | simp_all [bI]) rfl)
  · refine J_iconst (pc := 10) (v := 1) dX11_isKept_10 (by decide) ?_
    refine J_goto (pc := 11) (tgt := 15) dX11_isKept_11 (by decide) ?_
    exact J_iret (pc := 15) rfl rfl rfl dX11_isKept_15 (rq hQ (by first | rfl | simp [bI, *] | simp_all [bI]) rfl)
/-- what a house tells, in the model's rows -/
def MH (S : Sx) (ns nr np : Nat) (ow : Nat → Nat) : Prop := sa S 63 0 = nI ns ∧ sa S 63 1 = nI nr ∧ sa S 63 2 = nI np ∧ ns ≤ 8 ∧ nr ≤ 10 ∧ np ≤ 8 ∧ ∀ r, r < nr → sa S (80 + r) 0 = nI (ow r) ∧ ow r < ns
abbrev isRow (a : Nat) : Prop := lay a = some (.inr (0, 45, 0, 0))
def mko (S : Sx) (a : Nat) (sv : Int32) (nr : Nat) : Int32 := msk (fun r => decide (sa S (80 + r) 0 = sv ∧ sa S a (16 + r) ≠ -1)) nr
theorem r_X11_keptOf {g : Gp} {S : Sx} {a : Nat} {sv : Int32} {ns nr np : Nat} {ow : Nat → Nat} (ha : isRow a) (hH : MH S ns nr np ow) : RT g mX11_keptOf 1 [.ref 59, .ref a, .int sv] S (some (.int (mko S a sv nr))) S := by
  refine RT_ofQ ⟨rfl, rfl⟩ (Nat.le_of_ble_eq_true rfl) (fun sz Q hQ => ?_)
  obtain ⟨e0, e1, e2, l0, l1, l2, hr⟩ := hH
  refine J_iconst (pc := 0) (v := 0) dX11_keptOf_0 (by decide) ?_
  refine J_istore_n (pc := 1) dX11_keptOf_1 (by decide) rfl ?_
  refine J_iconst (pc := 2) (v := 0) dX11_keptOf_2 (by decide) ?_
  refine J_istore (pc := 3) dX11_keptOf_3 (by decide) rfl ?_
  show J g mX11_keptOf 1 [] 5 [some (.ref 59), some (.ref a), some (.int sv), some (.int 0), some (.int 0)] [] (hs S) sz 0 0 Q
  refine dn_ind (n := nr) (P := fun i => J g mX11_keptOf 1 [] 5 [some (.ref 59), some (.ref a), some (.int sv), some (.int (msk (fun r => decide (sa S (80 + r) 0 = sv ∧ sa S a (16 + r) ≠ -1)) i)), some (.int (ix i))] [] (hs S) sz 0 0 Q) ?_ (fun i hi ih => ?_) 0 (Nat.zero_le _)
  · refine J_iload (pc := 5) dX11_keptOf_5 rfl ?_
    refine J_aload_n (pc := 7) dX11_keptOf_7 rfl ?_
    refine J_getr (pc := 8) dX11_keptOf_8 kc11 fl_X11_23 rfl ?_
    refine J_iconst (pc := 11) (v := 1) dX11_keptOf_11 (by decide) ?_
    refine J_il (pc := 12) dX11_keptOf_12 (by first | rfl | assumption) (rfl : (1 : Int32) = nI 1) ⟨by first | decide | omega, by decide⟩ ?_
    refine J_icmp_ge (pc := 13) (tgt := 55) dX11_keptOf_13 (by decide) (fun c13 => ?_) (fun c13 => absurd (ix_ge e1) c13)
    refine J_iload_n (pc := 55) dX11_keptOf_55 rfl ?_
    exact J_iret (pc := 56) rfl rfl rfl dX11_keptOf_56 (rq hQ (by first | rfl | simp [bI, *] | simp_all [bI]) rfl)
  · refine J_iload (pc := 5) dX11_keptOf_5 rfl ?_
    refine J_aload_n (pc := 7) dX11_keptOf_7 rfl ?_
    refine J_getr (pc := 8) dX11_keptOf_8 kc11 fl_X11_23 rfl ?_
    refine J_iconst (pc := 11) (v := 1) dX11_keptOf_11 (by decide) ?_
    refine J_il (pc := 12) dX11_keptOf_12 (by first | rfl | assumption) (rfl : (1 : Int32) = nI 1) ⟨by first | decide | omega, by decide⟩ ?_
    refine J_icmp_ge (pc := 13) (tgt := 55) dX11_keptOf_13 (by decide) (fun c13 => absurd c13 (ix_lt e1 hi (by omega))) (fun c13 => ?_)
    refine J_iload_n (pc := 16) dX11_keptOf_16 rfl ?_
    refine J_aload_n (pc := 17) dX11_keptOf_17 rfl ?_
    refine J_getr (pc := 18) dX11_keptOf_18 kc11 fl_X11_43 rfl ?_
    refine J_iload (pc := 21) dX11_keptOf_21 rfl ?_
    refine J_ar1 (pc := 23) dX11_keptOf_23 rfl (by first | with_reducible rfl | assumption | exact ix_nI _ | rfl) ⟨by first | decide | omega, by decide⟩ ?_
    refine J_iconst (pc := 24) (v := 0) dX11_keptOf_24 (by decide) ?_
    refine J_il (pc := 25) dX11_keptOf_25 (lay_relic (by omega)) (rfl : (0 : Int32) = nI 0) ⟨by first | decide | omega, by decide⟩ ?_
    refine J_iload_n (pc := 26) dX11_keptOf_26 rfl ?_
    refine J_icmp_ne (pc := 27) (tgt := 46) dX11_keptOf_27 (by decide) (fun c27 => ?_) (fun c27 => ?_)
    · refine J_iconst (pc := 46) (v := 0) dX11_keptOf_46 (by decide) ?_
      refine J_ior (pc := 47) dX11_keptOf_47 ?_
      refine J_t1 (y := msk (fun r => decide (sa S (80 + r) 0 = sv ∧ sa S a (16 + r) ≠ -1)) (i + 1)) (by first | (refine msk_t ?_; simp [c27]; done) | (refine msk_f ?_; simp [c27]; done) | (refine msk_t ?_; simp [c27, c36]; done) | (refine msk_f ?_; simp [c27, c36]; done)) ?_
      refine J_istore_n (pc := 48) dX11_keptOf_48 (by decide) rfl ?_
      refine J_iinc (pc := 49) (v := 1) dX11_keptOf_49 rfl (by decide) rfl ?_
      refine J_goto (pc := 52) (tgt := 5) dX11_keptOf_52 (by decide) ?_
      exact ih
    · refine J_aload_n (pc := 30) dX11_keptOf_30 rfl ?_
      refine J_iload (pc := 31) dX11_keptOf_31 rfl ?_
      refine J_t1 (ix_nI i) ?_
      refine J_csr (pc := 33) (N := mX11_isKept) dX11_keptOf_33 ml_X11_267 cf_X11_isKept cs_X11_isKept (r_X11_isKept (r := i) ha (by omega)) rfl rfl (Nat.le_of_ble_eq_true rfl) (by decide) ?_
      refine J_ifp_eq (pc := 36) (tgt := 46) dX11_keptOf_36 (by decide) (fun c36 => ?_) (fun c36 => ?_)
      · refine J_iconst (pc := 46) (v := 0) dX11_keptOf_46 (by decide) ?_
        refine J_ior (pc := 47) dX11_keptOf_47 ?_
        refine J_t1 (y := msk (fun r => decide (sa S (80 + r) 0 = sv ∧ sa S a (16 + r) ≠ -1)) (i + 1)) (by first | (refine msk_t ?_; simp [c27]; done) | (refine msk_f ?_; simp [c27]; done) | (refine msk_t ?_; simp [c27, c36]; done) | (refine msk_f ?_; simp [c27, c36]; done)) ?_
        refine J_istore_n (pc := 48) dX11_keptOf_48 (by decide) rfl ?_
        refine J_iinc (pc := 49) (v := 1) dX11_keptOf_49 rfl (by decide) rfl ?_
        refine J_goto (pc := 52) (tgt := 5) dX11_keptOf_52 (by decide) ?_
        exact ih
      · refine J_iconst (pc := 39) (v := 1) dX11_keptOf_39 (by decide) ?_
        refine J_iload (pc := 40) dX11_keptOf_40 rfl ?_
        refine J_ishl (pc := 42) dX11_keptOf_42 ?_
        refine J_goto (pc := 43) (tgt := 47) dX11_keptOf_43 (by decide) ?_
        refine J_ior (pc := 47) dX11_keptOf_47 ?_
        refine J_t1 (y := msk (fun r => decide (sa S (80 + r) 0 = sv ∧ sa S a (16 + r) ≠ -1)) (i + 1)) (by first | (refine msk_t ?_; simp [c27]; done) | (refine msk_f ?_; simp [c27]; done) | (refine msk_t ?_; simp [c27, c36]; done) | (refine msk_f ?_; simp [c27, c36]; done)) ?_
        refine J_istore_n (pc := 48) dX11_keptOf_48 (by decide) rfl ?_
        refine J_iinc (pc := 49) (v := 1) dX11_keptOf_49 rfl (by decide) rfl ?_
        refine J_goto (pc := 52) (tgt := 5) dX11_keptOf_52 (by decide) ?_
        exact ih
def on1 (b : Int32) (n : Nat) : Int32 := sm (fun k => b >>> (ix k &&& 31) &&& 1) n
theorem r_X11_ones {g : Gp} {S : Sx} {b : Int32} : RT g mX11_ones 0 [.int b] S (some (.int (on1 b 10))) S := by
  refine RT_ofQ ⟨rfl, rfl⟩ (Nat.le_of_ble_eq_true rfl) (fun sz Q hQ => ?_)
  refine J_iconst (pc := 0) (v := 0) dX11_ones_0 (by decide) ?_
  refine J_istore_n (pc := 1) dX11_ones_1 (by decide) rfl ?_
  refine J_iconst (pc := 2) (v := 0) dX11_ones_2 (by decide) ?_
  refine J_istore_n (pc := 3) dX11_ones_3 (by decide) rfl ?_
  show J g mX11_ones 0 [] 4 [some (.int b), some (.int 0), some (.int 0)] [] (hs S) sz 0 0 Q
  refine dn_ind (n := 10) (P := fun i => J g mX11_ones 0 [] 4 [some (.int b), some (.int (on1 b i)), some (.int (ix i))] [] (hs S) sz 0 0 Q) ?_ (fun i hi ih => ?_) 0 (Nat.zero_le _)
  · refine J_iload_n (pc := 4) dX11_ones_4 rfl ?_
    refine J_bipush (pc := 5) (v := 10) dX11_ones_5 (by decide) ?_
    refine J_icmp_ge (pc := 7) (tgt := 24) dX11_ones_7 (by decide) (fun c7 => ?_) (fun c7 => absurd (ix_ge (n := 10) rfl) c7)
    refine J_iload_n (pc := 24) dX11_ones_24 rfl ?_
    exact J_iret (pc := 25) rfl rfl rfl dX11_ones_25 (rq hQ (by first | rfl | simp [bI, *] | simp_all [bI]) rfl)
  · refine J_iload_n (pc := 4) dX11_ones_4 rfl ?_
    refine J_bipush (pc := 5) (v := 10) dX11_ones_5 (by decide) ?_
    refine J_icmp_ge (pc := 7) (tgt := 24) dX11_ones_7 (by decide) (fun c7 => absurd c7 (ix_lt (n := 10) rfl hi (by decide))) (fun c7 => ?_)
    refine J_iload_n (pc := 10) dX11_ones_10 rfl ?_
    refine J_iload_n (pc := 11) dX11_ones_11 rfl ?_
    refine J_iload_n (pc := 12) dX11_ones_12 rfl ?_
    refine J_ishr (pc := 13) dX11_ones_13 ?_
    refine J_iconst (pc := 14) (v := 1) dX11_ones_14 (by decide) ?_
    refine J_iand (pc := 15) dX11_ones_15 ?_
    refine J_iadd (pc := 16) dX11_ones_16 ?_
    refine J_istore_n (pc := 17) dX11_ones_17 (by decide) rfl ?_
    refine J_iinc (pc := 18) (v := 1) dX11_ones_18 rfl (by decide) rfl ?_
    refine J_goto (pc := 21) (tgt := 4) dX11_ones_21 (by decide) ?_
    exact ih
def kn8 (a b c d e f s t : Int32) (i : Nat) : Int32 := match i with
  | 0 => a
  | 1 => b
  | 2 => c
  | 3 => d
  | 4 => e
  | 5 => f
  | 6 => s
  | _ => t
/-- what a relic can, whatever the stack held -/
def pval (m : Nat) (wv : Nat → Nat × Nat) (kn : Nat → Int32) : Int32 := lval m wv kn (fun _ => 0)
theorem lst_ind {m : Nat} {wv : Nat → Nat × Nat} (hW : LawW m wv) {kn kn' f f' : Nat → Int32} (hk : ∀ i, i < 8 → kn i = kn' i) (h0 : f 0 = f' 0) : ∀ k, k ≤ m → ∀ i, (i < ldep wv k ∨ i = 0) → (lst wv kn f k).2 i = (lst wv kn' f' k).2 i
  | 0, _, i, hi => by
    rcases hi with hi | rfl
    · exact absurd hi (by simp [ldep])
    · exact h0
  | k + 1, hm, i, hi => by
    have ih := lst_ind hW hk h0 k (by omega)
    obtain ⟨w1, w2, w3, w4, w5⟩ := hW.2 k (by omega)
    have e1 := lst_dep wv kn f k
    have e2 := lst_dep wv kn' f' k
    show (lstep _ _ kn (lst wv kn f k)).2 i = (lstep _ _ kn' (lst wv kn' f' k)).2 i
    have hd : ldep wv (k + 1) = if (wv k).1 < 2 then ldep wv k + 1 else ldep wv k - 1 := rfl
    rw [hd] at hi
    unfold lstep
    by_cases hw : (wv k).1 < 2
    · rw [if_pos hw] at hi
      rw [if_pos hw, if_pos hw, e1, e2]
      show upd _ _ _ i = upd _ _ _ i
      by_cases hx : i = ldep wv k
      · subst hx
        rw [pk_us, pk_us]
        by_cases h0 : (wv k).1 = 0
        · rw [if_pos h0, if_pos h0]
        · rw [if_neg h0, if_neg h0, hk _ (w3 (by omega))]
      · rw [pk_un hx, pk_un hx]
        exact ih i (by omega)
    · rw [if_neg hw] at hi
      have w6 := w4 (by omega)
      rw [if_neg hw, if_neg hw, e1, e2]
      show upd _ _ _ i = upd _ _ _ i
      by_cases hx : i = ldep wv k - 2
      · subst hx
        rw [pk_us, pk_us, ih _ (Or.inl (by omega)), ih _ (Or.inl (by omega))]
      · rw [pk_un hx, pk_un hx]
        exact ih i (by omega)
theorem lval_p {m : Nat} {wv : Nat → Nat × Nat} (hW : LawW m wv) {kn kn' : Nat → Int32} (f : Nat → Int32) (hk : ∀ i, i < 8 → kn i = kn' i) : lval m wv kn f = pval m wv kn' := by
  unfold pval lval
  rw [lst_ind hW hk (f := lf0 kn f) (f' := lf0 kn' (fun _ => 0)) (by simp [lf0, upd, hk]) m (Nat.le_refl _) 0 (Or.inr rfl)]
theorem r_X11_powerBy {g : Gp} {S : Sx} {a b c d e f s t : Int32} {m : Nat} {wv : Nat → Nat × Nat} (hW : LawW m wv) (hM : LawM S m wv) : RW g mX11_powerBy 3 [.ref 59, .int a, .int b, .int c, .int d, .int e, .int f, .int s, .int t] S (some (.int (pval m wv (kn8 a b c d e f s t)))) S := by
  refine RW_ofQ ⟨rfl, rfl⟩ (Nat.le_of_ble_eq_true rfl) (fun T sz Q hQ => ?_)
  refine J_aload_n (pc := 0) dX11_powerBy_0 rfl ?_
  refine J_getr (pc := 1) dX11_powerBy_1 kc11 fl_X11_67 rfl ?_
  refine J_iconst (pc := 4) (v := 0) dX11_powerBy_4 (by decide) ?_
  refine J_iload_n (pc := 5) dX11_powerBy_5 rfl ?_
  refine J_xsw (pc := 6) dX11_powerBy_6 (by first | rfl | assumption) (rfl : (0 : Int32) = nI 0) ⟨by first | decide | omega, by decide⟩ ?_
  refine J_aload_n (pc := 7) dX11_powerBy_7 rfl ?_
  refine J_getr (pc := 8) dX11_powerBy_8 kc11 fl_X11_67 rfl ?_
  refine J_iconst (pc := 11) (v := 1) dX11_powerBy_11 (by decide) ?_
  refine J_iload_n (pc := 12) dX11_powerBy_12 rfl ?_
  refine J_xsw (pc := 13) dX11_powerBy_13 (by first | rfl | assumption) (rfl : (1 : Int32) = nI 1) ⟨by first | decide | omega, by decide⟩ ?_
  refine J_aload_n (pc := 14) dX11_powerBy_14 rfl ?_
  refine J_getr (pc := 15) dX11_powerBy_15 kc11 fl_X11_67 rfl ?_
  refine J_iconst (pc := 18) (v := 2) dX11_powerBy_18 (by decide) ?_
  refine J_iload_n (pc := 19) dX11_powerBy_19 rfl ?_
  refine J_xsw (pc := 20) dX11_powerBy_20 (by first | rfl | assumption) (rfl : (2 : Int32) = nI 2) ⟨by first | decide | omega, by decide⟩ ?_
  refine J_aload_n (pc := 21) dX11_powerBy_21 rfl ?_
  refine J_getr (pc := 22) dX11_powerBy_22 kc11 fl_X11_67 rfl ?_
  refine J_iconst (pc := 25) (v := 3) dX11_powerBy_25 (by decide) ?_
  refine J_iload (pc := 26) dX11_powerBy_26 rfl ?_
  refine J_xsw (pc := 28) dX11_powerBy_28 (by first | rfl | assumption) (rfl : (3 : Int32) = nI 3) ⟨by first | decide | omega, by decide⟩ ?_
  refine J_aload_n (pc := 29) dX11_powerBy_29 rfl ?_
  refine J_getr (pc := 30) dX11_powerBy_30 kc11 fl_X11_67 rfl ?_
  refine J_iconst (pc := 33) (v := 4) dX11_powerBy_33 (by decide) ?_
  refine J_iload (pc := 34) dX11_powerBy_34 rfl ?_
  refine J_xsw (pc := 36) dX11_powerBy_36 (by first | rfl | assumption) (rfl : (4 : Int32) = nI 4) ⟨by first | decide | omega, by decide⟩ ?_
  refine J_aload_n (pc := 37) dX11_powerBy_37 rfl ?_
  refine J_getr (pc := 38) dX11_powerBy_38 kc11 fl_X11_67 rfl ?_
  refine J_iconst (pc := 41) (v := 5) dX11_powerBy_41 (by decide) ?_
  refine J_iload (pc := 42) dX11_powerBy_42 rfl ?_
  refine J_xsw (pc := 44) dX11_powerBy_44 (by first | rfl | assumption) (rfl : (5 : Int32) = nI 5) ⟨by first | decide | omega, by decide⟩ ?_
  refine J_aload_n (pc := 45) dX11_powerBy_45 rfl ?_
  refine J_getr (pc := 46) dX11_powerBy_46 kc11 fl_X11_67 rfl ?_
  refine J_bipush (pc := 49) (v := 6) dX11_powerBy_49 (by decide) ?_
  refine J_iload (pc := 51) dX11_powerBy_51 rfl ?_
  refine J_xsw (pc := 53) dX11_powerBy_53 (by first | rfl | assumption) (rfl : (6 : Int32) = nI 6) ⟨by first | decide | omega, by decide⟩ ?_
  refine J_aload_n (pc := 54) dX11_powerBy_54 rfl ?_
  refine J_getr (pc := 55) dX11_powerBy_55 kc11 fl_X11_67 rfl ?_
  refine J_bipush (pc := 58) (v := 7) dX11_powerBy_58 (by decide) ?_
  refine J_iload (pc := 60) dX11_powerBy_60 rfl ?_
  refine J_xsw (pc := 62) dX11_powerBy_62 (by first | rfl | assumption) (rfl : (7 : Int32) = nI 7) ⟨by first | decide | omega, by decide⟩ ?_
  refine J_aload_n (pc := 63) dX11_powerBy_63 rfl ?_
  refine J_cg2 (S' := w1 S (sX (sX (sX (sX (sX (sX (sX (sX T 453 0 a) 453 1 b) 453 2 c) 453 3 d) 453 4 e) 453 5 f) 453 6 s) 453 7 t)) rfl ?_
  refine J_cvr (pc := 64) (N := mX11_byLaw) dX11_powerBy_64 ml_X11_271 cf_X11_byLaw cv_X11_byLaw (r_X11_byLaw hW hM) rfl rfl (Nat.le_of_ble_eq_true rfl) (by decide) (rv_of (ci := 11) rfl rfl rfl) ?_
  exact J_iret (pc := 67) rfl rfl rfl dX11_powerBy_67 (by rw [lval_p (kn' := kn8 a b c d e f s t) hW _ (fun i hi => by (obtain rfl | rfl | rfl | rfl | rfl | rfl | rfl | rfl : i = 0 ∨ i = 1 ∨ i = 2 ∨ i = 3 ∨ i = 4 ∨ i = 5 ∨ i = 6 ∨ i = 7 := by omega) <;> rfl)]; exact hQ (sXX (sX (sX (sX (sX (sX (sX (sX (sX T 453 0 a) 453 1 b) 453 2 c) 453 3 d) 453 4 e) 453 5 f) 453 6 s) 453 7 t) 452 _))
/-- the power of relic r in a row, with days, lapses and day given -/
def mpo (S : Sx) (a nr : Nat) (ow : Nat → Nat) (m : Nat) (wv : Nat → Nat × Nat) (r : Nat) (dy lp dd : Int32) : Int32 := pval m wv (kn8 (sa S (80 + r) 2) dy lp (sa S 65 (ow r)) (sa S (80 + r) 1) (on1 (mko S a (nI (ow r)) nr) 10 - 1) (nI (ow r)) dd)
def mpw (S : Sx) (a nr : Nat) (ow : Nat → Nat) (m : Nat) (wv : Nat → Nat × Nat) (r : Nat) : Int32 := if sa S a (16 + r) ≠ -1 then mpo S a nr ow m wv r (sa S a (16 + r)) (sa S a (8 + ow r)) (sa S a 44) else 0
theorem r_X11_powerOf {g : Gp} {S : Sx} {a r ns nr np m : Nat} {ow : Nat → Nat} {wv : Nat → Nat × Nat} {dy lp dd : Int32} (ha : isRow a) (hH : MH S ns nr np ow) (hW : LawW m wv) (hM : LawM S m wv) (hr : r < nr) : RW g mX11_powerOf 4 [.ref 59, .ref a, .int (nI r), .int dy, .int lp, .int dd] S (some (.int (mpo S a nr ow m wv r dy lp dd))) S := by
  refine RW_ofQ ⟨rfl, rfl⟩ (Nat.le_of_ble_eq_true rfl) (fun T sz Q hQ => ?_)
  have hH' := hH
  obtain ⟨e0, e1, e2, l0, l1, l2, ho⟩ := hH'
  obtain ⟨o1, o2⟩ := ho r hr
  refine J_aload_n (pc := 0) dX11_powerOf_0 rfl ?_
  refine J_getr (pc := 1) dX11_powerOf_1 kc11 fl_X11_43 rfl ?_
  refine J_iload_n (pc := 4) dX11_powerOf_4 rfl ?_
  refine J_ar1 (pc := 5) dX11_powerOf_5 rfl (by first | with_reducible rfl | assumption | exact ix_nI _ | rfl) ⟨by first | decide | omega, by decide⟩ ?_
  refine J_iconst (pc := 6) (v := 0) dX11_powerOf_6 (by decide) ?_
  refine J_il (pc := 7) dX11_powerOf_7 (lay_relic (by omega)) (rfl : (0 : Int32) = nI 0) ⟨by first | decide | omega, by decide⟩ ?_
  refine J_t1 (y := nI (ow r)) o1 ?_
  refine J_istore (pc := 8) dX11_powerOf_8 (by decide) rfl ?_
  refine J_aload_n (pc := 10) dX11_powerOf_10 rfl ?_
  refine J_aload_n (pc := 11) dX11_powerOf_11 rfl ?_
  refine J_getr (pc := 12) dX11_powerOf_12 kc11 fl_X11_43 rfl ?_
  refine J_iload_n (pc := 15) dX11_powerOf_15 rfl ?_
  refine J_ar1 (pc := 16) dX11_powerOf_16 rfl (by first | with_reducible rfl | assumption | exact ix_nI _ | rfl) ⟨by first | decide | omega, by decide⟩ ?_
  refine J_iconst (pc := 17) (v := 2) dX11_powerOf_17 (by decide) ?_
  refine J_il (pc := 18) dX11_powerOf_18 (lay_relic (by omega)) (rfl : (2 : Int32) = nI 2) ⟨by first | decide | omega, by decide⟩ ?_
  refine J_iload_n (pc := 19) dX11_powerOf_19 rfl ?_
  refine J_iload (pc := 20) dX11_powerOf_20 rfl ?_
  refine J_aload_n (pc := 22) dX11_powerOf_22 rfl ?_
  refine J_getr (pc := 23) dX11_powerOf_23 kc11 fl_X11_29 rfl ?_
  refine J_iload (pc := 26) dX11_powerOf_26 rfl ?_
  refine J_il (pc := 28) dX11_powerOf_28 (by first | rfl | assumption) (by first | with_reducible rfl | assumption | exact ix_nI _ | rfl) ⟨by first | decide | omega, by decide⟩ ?_
  refine J_aload_n (pc := 29) dX11_powerOf_29 rfl ?_
  refine J_getr (pc := 30) dX11_powerOf_30 kc11 fl_X11_43 rfl ?_
  refine J_iload_n (pc := 33) dX11_powerOf_33 rfl ?_
  refine J_ar1 (pc := 34) dX11_powerOf_34 rfl (by first | with_reducible rfl | assumption | exact ix_nI _ | rfl) ⟨by first | decide | omega, by decide⟩ ?_
  refine J_iconst (pc := 35) (v := 1) dX11_powerOf_35 (by decide) ?_
  refine J_il (pc := 36) dX11_powerOf_36 (lay_relic (by omega)) (rfl : (1 : Int32) = nI 1) ⟨by first | decide | omega, by decide⟩ ?_
  refine J_aload_n (pc := 37) dX11_powerOf_37 rfl ?_
  refine J_aload_n (pc := 38) dX11_powerOf_38 rfl ?_
  refine J_iload (pc := 39) dX11_powerOf_39 rfl ?_
  refine J_cvr (pc := 41) (N := mX11_keptOf) dX11_powerOf_41 ml_X11_274 cf_X11_keptOf cv_X11_keptOf (r_X11_keptOf (S := w1 S T) ha hH) rfl rfl (Nat.le_of_ble_eq_true rfl) (by decide) (rv_of (ci := 11) rfl rfl rfl) ?_
  refine J_csr (pc := 44) (N := mX11_ones) dX11_powerOf_44 ml_X11_278 cf_X11_ones cs_X11_ones r_X11_ones rfl rfl (Nat.le_of_ble_eq_true rfl) (by decide) ?_
  refine J_iconst (pc := 47) (v := 1) dX11_powerOf_47 (by decide) ?_
  refine J_isub (pc := 48) dX11_powerOf_48 ?_
  refine J_iload (pc := 49) dX11_powerOf_49 rfl ?_
  refine J_iload (pc := 51) dX11_powerOf_51 rfl ?_
  refine J_cvw (pc := 53) (N := mX11_powerBy) dX11_powerOf_53 ml_X11_281 cf_X11_powerBy cv_X11_powerBy (r_X11_powerBy hW hM) rfl rfl (Nat.le_of_ble_eq_true rfl) (by decide) (rv_of (ci := 11) rfl rfl rfl) ?_
  intro T
  exact J_iret (pc := 56) rfl rfl rfl dX11_powerOf_56 (rqw hQ (by first | rfl | simp [bI, *] | simp_all [bI]) rfl)
theorem r_X11_power {g : Gp} {S : Sx} {a r ns nr np m : Nat} {ow : Nat → Nat} {wv : Nat → Nat × Nat} (ha : isRow a) (hH : MH S ns nr np ow) (hW : LawW m wv) (hM : LawM S m wv) (hr : r < nr) : RW g mX11_power 5 [.ref 59, .ref a, .int (nI r)] S (some (.int (mpw S a nr ow m wv r))) S := by
  refine RW_ofQ ⟨rfl, rfl⟩ (Nat.le_of_ble_eq_true rfl) (fun T sz Q hQ => ?_)
  have hH' := hH
  obtain ⟨e0, e1, e2, l0, l1, l2, ho⟩ := hH'
  obtain ⟨o1, o2⟩ := ho r hr
  refine J_aload_n (pc := 0) dX11_power_0 rfl ?_
  refine J_iload_n (pc := 1) dX11_power_1 rfl ?_
  refine J_csr (pc := 2) (N := mX11_isKept) dX11_power_2 ml_X11_267 cf_X11_isKept cs_X11_isKept (r_X11_isKept ha (by omega)) rfl rfl (Nat.le_of_ble_eq_true rfl) (by decide) ?_
  refine J_ifp_eq (pc := 5) (tgt := 40) dX11_power_5 (by decide) (fun c5 => ?_) (fun c5 => ?_)
  · refine J_iconst (pc := 40) (v := 0) dX11_power_40 (by decide) ?_
    exact J_iret (pc := 41) rfl rfl rfl dX11_power_41 (rqw hQ (by unfold mpw; first | exact (if_pos c5).symm | exact (if_neg c5).symm) rfl)
  · refine J_aload_n (pc := 8) dX11_power_8 rfl ?_
    refine J_aload_n (pc := 9) dX11_power_9 rfl ?_
    refine J_iload_n (pc := 10) dX11_power_10 rfl ?_
    refine J_aload_n (pc := 11) dX11_power_11 rfl ?_
    refine J_bipush (pc := 12) (v := 16) dX11_power_12 (by decide) ?_
    refine J_iload_n (pc := 14) dX11_power_14 rfl ?_
    refine J_iadd (pc := 15) dX11_power_15 ?_
    refine J_il (pc := 16) dX11_power_16 (by first | rfl | assumption) (by first | exact nI_add 16 _ | (rw [ix_nI]; exact nI_add 16 _)) ⟨by first | decide | omega, by decide⟩ ?_
    refine J_aload_n (pc := 17) dX11_power_17 rfl ?_
    refine J_bipush (pc := 18) (v := 8) dX11_power_18 (by decide) ?_
    refine J_aload_n (pc := 20) dX11_power_20 rfl ?_
    refine J_getr (pc := 21) dX11_power_21 kc11 fl_X11_43 rfl ?_
    refine J_iload_n (pc := 24) dX11_power_24 rfl ?_
    refine J_ar1 (pc := 25) dX11_power_25 rfl (by first | with_reducible rfl | assumption | exact ix_nI _ | rfl) ⟨by first | decide | omega, by decide⟩ ?_
    refine J_iconst (pc := 26) (v := 0) dX11_power_26 (by decide) ?_
    refine J_il (pc := 27) dX11_power_27 (lay_relic (by omega)) (rfl : (0 : Int32) = nI 0) ⟨by first | decide | omega, by decide⟩ ?_
    refine J_t1 (y := nI (ow r)) o1 ?_
    refine J_iadd (pc := 28) dX11_power_28 ?_
    refine J_il (pc := 29) dX11_power_29 (by first | rfl | assumption) (by first | exact nI_add 8 _ | (rw [ix_nI]; exact nI_add 8 _)) ⟨by first | decide | omega, by decide⟩ ?_
    refine J_aload_n (pc := 30) dX11_power_30 rfl ?_
    refine J_bipush (pc := 31) (v := 44) dX11_power_31 (by decide) ?_
    refine J_il (pc := 33) dX11_power_33 (by first | rfl | assumption) (rfl : (44 : Int32) = nI 44) ⟨by first | decide | omega, by decide⟩ ?_
    refine J_cvw (pc := 34) (N := mX11_powerOf) dX11_power_34 ml_X11_285 cf_X11_powerOf cv_X11_powerOf (r_X11_powerOf ha hH hW hM hr) rfl rfl (Nat.le_of_ble_eq_true rfl) (by decide) (rv_of (ci := 11) rfl rfl rfl) ?_
    intro T
    refine J_goto (pc := 37) (tgt := 41) dX11_power_37 (by decide) ?_
    exact J_iret (pc := 41) rfl rfl rfl dX11_power_41 (rqw hQ (by unfold mpw; first | exact (if_pos c5).symm | exact (if_neg c5).symm) rfl)
