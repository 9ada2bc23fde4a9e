theorem MH_row {S : Sx} {ns nr np : Nat} {ow : Nat → Nat} (hH : MH S ns nr np ow) {a k : Nat} {v : Int32} (ha : isRow a) : MH (sA S a k v) ns nr np ow := by
  obtain ⟨e0, e1, e2, l0, l1, l2, ho⟩ := hH
  have n1 : a ≠ 63 := by intro q; subst q; exact absurd ha (by decide)
  have n2 : ∀ r, r < nr → a ≠ 80 + r := by
    intro r hr q
    subst q
    have := lay_relic (k := r) (by omega)
    have ha' : lay (80 + r) = some (.inr (0, 45, 0, 0)) := ha
    rw [this] at ha'
    exact absurd ha' (by simp)
  have s1 : sa (sA S a k v) 63 = sa S 63 := up2_o (Ne.symm n1)
  refine ⟨by rw [s1]; exact e0, by rw [s1]; exact e1, by rw [s1]; exact e2, l0, l1, l2, fun r hr => ?_⟩
  have s2 : sa (sA S a k v) (80 + r) = sa S (80 + r) := up2_o (Ne.symm (n2 r hr))
  rw [s2]
  exact ho r hr
theorem sA_s {S : Sx} {a k : Nat} {v : Int32} : sa (sA S a k v) a k = v := by simp [sA, sa, up2]
theorem sA_n {S : Sx} {a k j : Nat} {v : Int32} (h : j ≠ k) : sa (sA S a k v) a j = sa S a j := by simp [sA, sa, up2, h]
theorem sA_o {S : Sx} {a b k : Nat} {v : Int32} (h : b ≠ a) : sa (sA S a k v) b = sa S b := up2_o h
/-- a lapse, relic by relic -/
def lpS (S : Sx) (a : Nat) (sv : Int32) (nr : Nat) : Nat → Sx
  | 0 => S
  | i + 1 => sA (lpS S a sv nr i) a (16 + i) (if mko (lpS S a sv nr i) a sv nr >>> (ix i &&& 31) &&& 1 = 1 then sa (lpS S a sv nr i) a (16 + i) / 2 else sa (lpS S a sv nr i) a (16 + i))
theorem lpS_MH {S : Sx} {a : Nat} {sv : Int32} {ns nr np : Nat} {ow : Nat → Nat} (ha : isRow a) (hH : MH S ns nr np ow) : ∀ i, MH (lpS S a sv nr i) ns nr np ow
  | 0 => hH
  | i + 1 => MH_row (lpS_MH ha hH i) ha
def dyS (S : Sx) (a : Nat) : Nat → Sx
  | 0 => S
  | i + 1 => sA (sA (dyS S a i) a (16 + i) (sa (dyS S a i) a (16 + i) + (if sa (dyS S a i) a (16 + i) ≠ -1 then 1 else 0))) a (26 + i) 0
theorem dyS_MH {S : Sx} {a : Nat} {ns nr np : Nat} {ow : Nat → Nat} (ha : isRow a) (hH : MH S ns nr np ow) : ∀ i, MH (dyS S a i) ns nr np ow
  | 0 => hH
  | i + 1 => MH_row (MH_row (dyS_MH ha hH i) ha) ha
def dyE (S : Sx) (a nr : Nat) : Sx := sA (dyS S a nr) a 44 (sa (dyS S a nr) a 44 + 1)
def lpE (S : Sx) (a s nr : Nat) : Sx := sA (lpS S a (nI s) nr nr) a (8 + s) (sa (lpS S a (nI s) nr nr) a (8 + s) + 1)
def cpS (S : Sx) (b a : Nat) : Nat → Sx
  | 0 => S
  | i + 1 => sA (cpS S b a i) a i (sa (cpS S b a i) b i)
theorem r_X11_lapses_f {g : Gp} {S : Sx} {a s ns nr np : Nat} {ow : Nat → Nat} (ha : isRow a) (hH : MH S ns nr np ow) (hs' : s < ns) (hc : ¬ (sa S a (0 + s) = 0 ∧ mko S a (nI s) nr ≠ 0)) : RT g mX11_lapses 3 [.ref 59, .ref a, .int (nI s)] S (some (.int 0)) S := by
  refine RT_ofQ ⟨rfl, rfl⟩ (Nat.le_of_ble_eq_true rfl) (fun sz Q hQ => ?_)
  have hH' := hH
  obtain ⟨e0, e1, e2, l0, l1, l2, ho⟩ := hH'
  refine J_aload_n (pc := 0) dX11_lapses_0 rfl ?_
  refine J_aload_n (pc := 1) dX11_lapses_1 rfl ?_
  refine J_iload_n (pc := 2) dX11_lapses_2 rfl ?_
  refine J_cvr (pc := 3) (N := mX11_canLapse) dX11_lapses_3 ml_X11_296 cf_X11_canLapse cv_X11_canLapse (r_X11_canLapse ha hH hs') rfl rfl (Nat.le_of_ble_eq_true rfl) (by decide) (rv_of (ci := 11) rfl rfl rfl) ?_
  refine J_ifp_ne (pc := 6) (tgt := 11) dX11_lapses_6 (by decide) (fun c6 => absurd c6 hc) (fun c6 => ?_)
  refine J_iconst (pc := 9) (v := 0) dX11_lapses_9 (by decide) ?_
  exact J_iret (pc := 10) rfl rfl rfl dX11_lapses_10 (rq hQ (by first | rfl | simp [bI, *] | simp_all [bI]) rfl)
theorem r_X11_lapses_t {g : Gp} {S : Sx} {a s ns nr np : Nat} {ow : Nat → Nat} (ha : isRow a) (hH : MH S ns nr np ow) (hs' : s < ns) (hc : sa S a (0 + s) = 0 ∧ mko S a (nI s) nr ≠ 0) : RT g mX11_lapses 3 [.ref 59, .ref a, .int (nI s)] S (some (.int 1)) (lpE S a s nr) := by
  refine RT_ofQ ⟨rfl, rfl⟩ (Nat.le_of_ble_eq_true rfl) (fun sz Q hQ => ?_)
  have hH' := hH
  obtain ⟨e0, e1, e2, l0, l1, l2, ho⟩ := hH'
  refine J_aload_n (pc := 0) dX11_lapses_0 rfl ?_
  refine J_aload_n (pc := 1) dX11_lapses_1 rfl ?_
  refine J_iload_n (pc := 2) dX11_lapses_2 rfl ?_
  refine J_cvr (pc := 3) (N := mX11_canLapse) dX11_lapses_3 ml_X11_296 cf_X11_canLapse cv_X11_canLapse (r_X11_canLapse ha hH hs') rfl rfl (Nat.le_of_ble_eq_true rfl) (by decide) (rv_of (ci := 11) rfl rfl rfl) ?_
  refine J_ifp_ne (pc := 6) (tgt := 11) dX11_lapses_6 (by decide) (fun c6 => ?_) (fun c6 => absurd hc c6)
  refine J_iconst (pc := 11) (v := 0) dX11_lapses_11 (by decide) ?_
  refine J_istore_n (pc := 12) dX11_lapses_12 (by decide) rfl ?_
  show J g mX11_lapses 3 [] 13 [some (.ref 59), some (.ref a), some (.int (nI s)), some (.int 0)] [] (hs S) sz 0 0 Q
  refine dn_ind (n := nr) (P := fun i => J g mX11_lapses 3 [] 13 [some (.ref 59), some (.ref a), some (.int (nI s)), some (.int (ix i))] [] (hs (lpS S a (nI s) nr i)) sz 0 0 Q) ?_ (fun i hi ih => ?_) 0 (Nat.zero_le _)
  · have e1 := (lpS_MH (sv := nI s) ha hH nr).2.1
    refine J_iload_n (pc := 13) dX11_lapses_13 rfl ?_
    refine J_aload_n (pc := 14) dX11_lapses_14 rfl ?_
    refine J_getr (pc := 15) dX11_lapses_15 kc11 fl_X11_23 rfl ?_
    refine J_iconst (pc := 18) (v := 1) dX11_lapses_18 (by decide) ?_
    refine J_il (pc := 19) dX11_lapses_19 (by first | rfl | assumption) (rfl : (1 : Int32) = nI 1) ⟨by first | decide | omega, by decide⟩ ?_
    refine J_icmp_ge (pc := 20) (tgt := 65) dX11_lapses_20 (by decide) (fun c20 => ?_) (fun c20 => absurd (ix_ge e1) c20)
    refine J_aload_n (pc := 65) dX11_lapses_65 rfl ?_
    refine J_bipush (pc := 66) (v := 8) dX11_lapses_66 (by decide) ?_
    refine J_iload_n (pc := 68) dX11_lapses_68 rfl ?_
    refine J_iadd (pc := 69) dX11_lapses_69 ?_
    refine J_dup2 (pc := 70) dX11_lapses_70 rfl rfl ?_
    refine J_il (pc := 71) dX11_lapses_71 (by first | rfl | assumption) (nI_add 8 s) ⟨by first | decide | omega, by decide⟩ ?_
    refine J_iconst (pc := 72) (v := 1) dX11_lapses_72 (by decide) ?_
    refine J_iadd (pc := 73) dX11_lapses_73 ?_
    refine J_is (pc := 74) dX11_lapses_74 (by first | rfl | assumption) (by first | exact nI_add 8 _ | (rw [ix_nI]; exact nI_add 8 _)) ⟨by first | decide | omega, by decide⟩ ?_
    refine J_iconst (pc := 75) (v := 1) dX11_lapses_75 (by decide) ?_
    exact J_iret (pc := 76) rfl rfl rfl dX11_lapses_76 (rq hQ (by first | rfl | simp [bI, *] | simp_all [bI]) rfl)
  · have hHi := lpS_MH (sv := nI s) ha hH i
    have e1 := hHi.2.1
    refine J_iload_n (pc := 13) dX11_lapses_13 rfl ?_
    refine J_aload_n (pc := 14) dX11_lapses_14 rfl ?_
    refine J_getr (pc := 15) dX11_lapses_15 kc11 fl_X11_23 rfl ?_
    refine J_iconst (pc := 18) (v := 1) dX11_lapses_18 (by decide) ?_
    refine J_il (pc := 19) dX11_lapses_19 (by first | rfl | assumption) (rfl : (1 : Int32) = nI 1) ⟨by first | decide | omega, by decide⟩ ?_
    refine J_icmp_ge (pc := 20) (tgt := 65) dX11_lapses_20 (by decide) (fun c20 => absurd c20 (ix_lt e1 hi (by omega))) (fun c20 => ?_)
    refine J_aload_n (pc := 23) dX11_lapses_23 rfl ?_
    refine J_bipush (pc := 24) (v := 16) dX11_lapses_24 (by decide) ?_
    refine J_iload_n (pc := 26) dX11_lapses_26 rfl ?_
    refine J_iadd (pc := 27) dX11_lapses_27 ?_
    refine J_aload_n (pc := 28) dX11_lapses_28 rfl ?_
    refine J_aload_n (pc := 29) dX11_lapses_29 rfl ?_
    refine J_iload_n (pc := 30) dX11_lapses_30 rfl ?_
    refine J_cvr (pc := 31) (N := mX11_keptOf) dX11_lapses_31 ml_X11_274 cf_X11_keptOf cv_X11_keptOf (r_X11_keptOf ha hHi) rfl rfl (Nat.le_of_ble_eq_true rfl) (by decide) (rv_of (ci := 11) rfl rfl rfl) ?_
    refine J_iload_n (pc := 34) dX11_lapses_34 rfl ?_
    refine J_csr (pc := 35) (N := mX11_has) dX11_lapses_35 ml_X11_263 cf_X11_has cs_X11_has r_X11_has rfl rfl (Nat.le_of_ble_eq_true rfl) (by decide) ?_
    refine J_mid1 58 (if mko (lpS S a (nI s) nr i) a (nI s) nr >>> (ix i &&& 31) &&& 1 = 1 then sa (lpS S a (nI s) nr i) a (16 + i) / 2 else sa (lpS S a (nI s) nr i) a (16 + i)) ?_ (fun hj38 => ?_)
    · refine J_is (pc := 58) dX11_lapses_58 (by first | rfl | assumption) (by rw [ix_nI]; exact nI_add 16 i) ⟨by first | decide | omega, by decide⟩ ?_
      refine J_iinc (pc := 59) (v := 1) dX11_lapses_59 rfl (by decide) rfl ?_
      refine J_goto (pc := 62) (tgt := 13) dX11_lapses_62 (by decide) ?_
      exact ih
    · refine J_ifp_eq (pc := 38) (tgt := 52) dX11_lapses_38 (by decide) (fun c38 => ?_) (fun c38 => ?_)
      · refine J_aload_n (pc := 52) dX11_lapses_52 rfl ?_
        refine J_bipush (pc := 53) (v := 16) dX11_lapses_53 (by decide) ?_
        refine J_iload_n (pc := 55) dX11_lapses_55 rfl ?_
        refine J_iadd (pc := 56) dX11_lapses_56 ?_
        refine J_il (pc := 57) dX11_lapses_57 (by first | rfl | assumption) (by first | exact nI_add 16 _ | (rw [ix_nI]; exact nI_add 16 _)) ⟨by first | decide | omega, by decide⟩ ?_
        exact hj38 _ (by first | exact (if_pos c38).symm | exact (if_neg c38).symm)
      · refine J_aload_n (pc := 41) dX11_lapses_41 rfl ?_
        refine J_bipush (pc := 42) (v := 16) dX11_lapses_42 (by decide) ?_
        refine J_iload_n (pc := 44) dX11_lapses_44 rfl ?_
        refine J_iadd (pc := 45) dX11_lapses_45 ?_
        refine J_il (pc := 46) dX11_lapses_46 (by first | rfl | assumption) (by first | exact nI_add 16 _ | (rw [ix_nI]; exact nI_add 16 _)) ⟨by first | decide | omega, by decide⟩ ?_
        refine J_iconst (pc := 47) (v := 2) dX11_lapses_47 (by decide) ?_
        refine J_idiv (pc := 48) dX11_lapses_48 (by decide) ?_
        refine J_goto (pc := 49) (tgt := 58) dX11_lapses_49 (by decide) ?_
        exact hj38 _ (by first | exact (if_pos c38).symm | exact (if_neg c38).symm)
