/-! the law: postfix items (w, v): 0 a number, 1 an input, 2 .. 8 an operation -/
def sXX (S : Sx) (a : Nat) (f : Nat → Int32) : Sx := (sf S, sp S, sa S, sl S, fun b => if b = a then f else sx S b)
theorem sX_XX (S : Sx) (a k : Nat) (v : Int32) : sX S a k v = sXX S a (upd (sx S a) k v) := by
  have : up2 (sx S) a k v = fun b => if b = a then upd (sx S a) k v else sx S b := by
    funext b y
    by_cases hb : b = a
    · subst hb; simp [up2, upd]
    · simp [up2, hb]
  show (sf S, sp S, sa S, sl S, _) = (sf S, sp S, sa S, sl S, _)
  rw [this]
theorem sXX_XX (S : Sx) (a : Nat) (f f' : Nat → Int32) : sXX (sXX S a f) a f' = sXX S a f' := by
  have : (fun b => if b = a then f' else sx (sXX S a f) b) = fun b => if b = a then f' else sx S b := by
    funext b
    by_cases hb : b = a
    · simp [hb]
    · simp [hb, sXX, sx]
  show (sf S, sp S, sa S, sl S, _) = (sf S, sp S, sa S, sl S, _)
  rw [this]
theorem sXX_s (S : Sx) (a : Nat) (f : Nat → Int32) : sx (sXX S a f) a = f := by simp [sXX, sx]
theorem sXX_put (S : Sx) (a k : Nat) (f : Nat → Int32) (v : Int32) : sX (sXX S a f) a k v = sXX S a (upd f k v) := by rw [sX_XX, sXX_XX, sXX_s]
def lstep (w v : Nat) (kn : Nat → Int32) (p : Nat × (Nat → Int32)) : Nat × (Nat → Int32) := if w < 2 then (p.1 + 1, upd p.2 p.1 (if w = 0 then nI v else kn v)) else (p.1 - 1, upd p.2 (p.1 - 2) (byv w (p.2 (p.1 - 2)) (p.2 (p.1 - 1))))
def lst (wv : Nat → Nat × Nat) (kn f0 : Nat → Int32) : Nat → Nat × (Nat → Int32)
  | 0 => (0, f0)
  | k + 1 => lstep (wv k).1 (wv k).2 kn (lst wv kn f0 k)
def ldep (wv : Nat → Nat × Nat) : Nat → Nat
  | 0 => 0
  | k + 1 => if (wv k).1 < 2 then ldep wv k + 1 else ldep wv k - 1
theorem lst_dep (wv : Nat → Nat × Nat) (kn f0 : Nat → Int32) : ∀ k, (lst wv kn f0 k).1 = ldep wv k
  | 0 => rfl
  | k + 1 => by
    show (lstep _ _ kn (lst wv kn f0 k)).1 = if (wv k).1 < 2 then ldep wv k + 1 else ldep wv k - 1
    unfold lstep
    rw [← lst_dep wv kn f0 k]
    by_cases h : (wv k).1 < 2
    · rw [if_pos h, if_pos h]
    · rw [if_neg h, if_neg h]
/-- the items of a law are in order -/
def LawW (m : Nat) (wv : Nat → Nat × Nat) : Prop := m ≤ 150 ∧ ∀ k, k < m → (wv k).1 ≤ 8 ∧ ((wv k).1 = 0 → (wv k).2 < 1000) ∧ ((wv k).1 = 1 → (wv k).2 < 8) ∧ (2 ≤ (wv k).1 → 2 ≤ ldep wv k) ∧ ldep wv (k + 1) ≤ 24
def LawM (S : Sx) (m : Nat) (wv : Nat → Nat × Nat) : Prop := sf S 59 21 = nI m ∧ ∀ k, k < m → sa S (109 + k) 0 = nI (wv k).1 ∧ sa S (109 + k) 1 = nI (wv k).2
def clp (x : Int32) : Int32 := if 99 < (if x < 0 then 0 else x) then 99 else (if x < 0 then 0 else x)
def lf0 (kn f : Nat → Int32) : Nat → Int32 := upd f 0 (kn 0 + kn 1 - 2 * kn 2)
def lval (m : Nat) (wv : Nat → Nat × Nat) (kn f : Nat → Int32) : Int32 := clp ((lst wv kn (lf0 kn f) m).2 0)
theorem r_X11_byLaw {g : Gp} {S : Sx} {m : Nat} {wv : Nat → Nat × Nat} (hW : LawW m wv) (hM : LawM S m wv) : RT g mX11_byLaw 2 [.ref 59] S (some (.int (lval m wv (sx S 453) (sx S 452)))) (sXX S 452 (lst wv (sx S 453) (lf0 (sx S 453) (sx S 452)) m).2) := by
  refine RT_ofQ ⟨rfl, rfl⟩ (Nat.le_of_ble_eq_true rfl) (fun sz Q hQ => ?_)
  refine J_iconst (pc := 0) (v := 0) dX11_byLaw_0 (by decide) ?_
  refine J_istore_n (pc := 1) dX11_byLaw_1 (by decide) rfl ?_
  refine J_aload_n (pc := 2) dX11_byLaw_2 rfl ?_
  refine J_getr (pc := 3) dX11_byLaw_3 kc11 fl_X11_64 rfl ?_
  refine J_iconst (pc := 6) (v := 0) dX11_byLaw_6 (by decide) ?_
  refine J_aload_n (pc := 7) dX11_byLaw_7 rfl ?_
  refine J_getr (pc := 8) dX11_byLaw_8 kc11 fl_X11_67 rfl ?_
  refine J_iconst (pc := 11) (v := 0) dX11_byLaw_11 (by decide) ?_
  refine J_xl (pc := 12) dX11_byLaw_12 (by first | rfl | assumption) (rfl : (0 : Int32) = nI 0) ⟨by decide, by decide⟩ ?_
  refine J_aload_n (pc := 13) dX11_byLaw_13 rfl ?_
  refine J_getr (pc := 14) dX11_byLaw_14 kc11 fl_X11_67 rfl ?_
  refine J_iconst (pc := 17) (v := 1) dX11_byLaw_17 (by decide) ?_
  refine J_xl (pc := 18) dX11_byLaw_18 (by first | rfl | assumption) (rfl : (1 : Int32) = nI 1) ⟨by decide, by decide⟩ ?_
  refine J_iadd (pc := 19) dX11_byLaw_19 ?_
  refine J_iconst (pc := 20) (v := 2) dX11_byLaw_20 (by decide) ?_
  refine J_aload_n (pc := 21) dX11_byLaw_21 rfl ?_
  refine J_getr (pc := 22) dX11_byLaw_22 kc11 fl_X11_67 rfl ?_
  refine J_iconst (pc := 25) (v := 2) dX11_byLaw_25 (by decide) ?_
  refine J_xl (pc := 26) dX11_byLaw_26 (by first | rfl | assumption) (rfl : (2 : Int32) = nI 2) ⟨by decide, by decide⟩ ?_
  refine J_imul (pc := 27) dX11_byLaw_27 ?_
  refine J_isub (pc := 28) dX11_byLaw_28 ?_
  refine J_xs (pc := 29) dX11_byLaw_29 (by first | rfl | assumption) (rfl : (0 : Int32) = nI 0) ⟨by decide, by decide⟩ ?_
  refine J_iconst (pc := 30) (v := 0) dX11_byLaw_30 (by decide) ?_
  refine J_istore_n (pc := 31) dX11_byLaw_31 (by decide) rfl ?_
  rw [sX_XX]
  obtain ⟨f0, hf0⟩ : ∃ f, lf0 (sx S 453) (sx S 452) = f := ⟨_, rfl⟩
  have hm := hM.1
  have hs0 : sXX S 452 (upd (sx S 452) 0 (sx S 453 0 + sx S 453 1 - 2 * sx S 453 2)) = sXX S 452 (lst wv (sx S 453) f0 0).2 := by rw [← hf0]; rfl
  refine J_cg2 hs0 ?_
  refine dn_ind (n := m) (P := fun k => J g mX11_byLaw 2 [] 32 [some (.ref 59), some (.int (nI (lst wv (sx S 453) f0 k).1)), some (.int (ix k))] [] (hs (sXX S 452 (lst wv (sx S 453) f0 k).2)) sz 0 0 Q) ?_ (fun k hk ih => ?_) 0 (Nat.zero_le _)
  · refine J_iload_n (pc := 32) dX11_byLaw_32 rfl ?_
    refine J_aload_n (pc := 33) dX11_byLaw_33 rfl ?_
    refine J_geti (pc := 34) dX11_byLaw_34 kc11 fl_X11_200 rfl ?_
    refine J_icmp_ge (pc := 37) (tgt := 141) dX11_byLaw_37 (by decide) (fun c37 => ?_) (fun c37 => absurd (ix_ge hm) c37)
    refine J_bipush (pc := 141) (v := 99) dX11_byLaw_141 (by decide) ?_
    refine J_iconst (pc := 143) (v := 0) dX11_byLaw_143 (by decide) ?_
    refine J_aload_n (pc := 144) dX11_byLaw_144 rfl ?_
    refine J_getr (pc := 145) dX11_byLaw_145 kc11 fl_X11_64 rfl ?_
    refine J_iconst (pc := 148) (v := 0) dX11_byLaw_148 (by decide) ?_
    refine J_xl (pc := 149) dX11_byLaw_149 (by first | rfl | assumption) (rfl : (0 : Int32) = nI 0) ⟨by decide, by decide⟩ ?_
    refine J_csr (pc := 150) (N := mX11_more) dX11_byLaw_150 ml_X11_248 cf_X11_more cs_X11_more r_X11_more rfl rfl (Nat.le_of_ble_eq_true rfl) (by decide) ?_
    refine J_csr (pc := 153) (N := mX11_less) dX11_byLaw_153 ml_X11_245 cf_X11_less cs_X11_less r_X11_less rfl rfl (Nat.le_of_ble_eq_true rfl) (by decide) ?_
    exact J_iret (pc := 156) rfl rfl rfl dX11_byLaw_156 (rq hQ (by rw [← hf0]; rfl) (by rw [← hf0]))
  · refine J_iload_n (pc := 32) dX11_byLaw_32 rfl ?_
    refine J_aload_n (pc := 33) dX11_byLaw_33 rfl ?_
    refine J_geti (pc := 34) dX11_byLaw_34 kc11 fl_X11_200 rfl ?_
    refine J_icmp_ge (pc := 37) (tgt := 141) dX11_byLaw_37 (by decide) (fun c37 => absurd c37 (ix_lt hm hk (by have := hW.1; omega))) (fun c37 => ?_)
    refine J_aload_n (pc := 40) dX11_byLaw_40 rfl ?_
    refine J_getr (pc := 41) dX11_byLaw_41 kc11 fl_X11_52 rfl ?_
    refine J_iload_n (pc := 44) dX11_byLaw_44 rfl ?_
    refine J_ar1 (pc := 45) dX11_byLaw_45 rfl (ix_nI k) ⟨by have := hW.1; omega, by decide⟩ ?_
    refine J_iconst (pc := 46) (v := 0) dX11_byLaw_46 (by decide) ?_
    refine J_il (pc := 47) dX11_byLaw_47 (lay_law (by have := hW.1; omega)) (rfl : (0 : Int32) = nI 0) ⟨by decide, by decide⟩ ?_
    refine J_t1 (y := nI (wv k).1) ((hM.2 k hk).1) ?_
    refine J_iconst (pc := 48) (v := 2) dX11_byLaw_48 (by decide) ?_
    refine J_icmp_ge (pc := 49) (tgt := 99) dX11_byLaw_49 (by decide) (fun c49 => ?_) (fun c49 => ?_)
    · have w2 : 2 ≤ (wv k).1 := (nI_leI (a := 2) (by decide) (by have := (hW.2 k hk).1; omega)).mp c49
      have hd2 := (hW.2 k hk).2.2.2.1 w2
      have hd4 := (hW.2 k hk).2.2.2.2
      rw [← lst_dep wv (sx S 453) f0 k] at hd2
      rw [← lst_dep wv (sx S 453) f0 (k + 1)] at hd4
      have hls : lst wv (sx S 453) f0 (k + 1) = lstep (wv k).1 (wv k).2 (sx S 453) (lst wv (sx S 453) f0 k) := rfl
      unfold lstep at hls
      rw [if_neg (by omega)] at hls
      rw [hls] at hd4
      rw [hls] at ih
      generalize lst wv (sx S 453) f0 k = p at *
      dsimp only at hd4 ih
      refine J_iinc (pc := 99) (v := -1) dX11_byLaw_99 rfl (by decide) rfl ?_
      refine J_cg1 (ls' := [some (.ref 59), some (.int (nI (p.1 - 1))), some (.int (ix k))]) (by rw [← sb_m1 (by omega)]; rfl) ?_
      refine J_aload_n (pc := 102) dX11_byLaw_102 rfl ?_
      refine J_getr (pc := 103) dX11_byLaw_103 kc11 fl_X11_64 rfl ?_
      refine J_iload_n (pc := 106) dX11_byLaw_106 rfl ?_
      refine J_iconst (pc := 107) (v := 1) dX11_byLaw_107 (by decide) ?_
      refine J_isub (pc := 108) dX11_byLaw_108 ?_
      refine J_t1 (y := nI (p.1 - 2)) (by rw [show (1 : Int32) = nI 1 from rfl, pk_sub (by omega), show p.1 - 1 - 1 = p.1 - 2 by omega]) ?_
      refine J_aload_n (pc := 109) dX11_byLaw_109 rfl ?_
      refine J_getr (pc := 110) dX11_byLaw_110 kc11 fl_X11_52 rfl ?_
      refine J_iload_n (pc := 113) dX11_byLaw_113 rfl ?_
      refine J_ar1 (pc := 114) dX11_byLaw_114 rfl (ix_nI k) ⟨by have := hW.1; omega, by decide⟩ ?_
      refine J_iconst (pc := 115) (v := 0) dX11_byLaw_115 (by decide) ?_
      refine J_il (pc := 116) dX11_byLaw_116 (lay_law (by have := hW.1; omega)) (rfl : (0 : Int32) = nI 0) ⟨by decide, by decide⟩ ?_
      refine J_t1 (y := nI (wv k).1) ((hM.2 k hk).1) ?_
      refine J_aload_n (pc := 117) dX11_byLaw_117 rfl ?_
      refine J_getr (pc := 118) dX11_byLaw_118 kc11 fl_X11_64 rfl ?_
      refine J_iload_n (pc := 121) dX11_byLaw_121 rfl ?_
      refine J_iconst (pc := 122) (v := 1) dX11_byLaw_122 (by decide) ?_
      refine J_isub (pc := 123) dX11_byLaw_123 ?_
      refine J_t1 (y := nI (p.1 - 2)) (by rw [show (1 : Int32) = nI 1 from rfl, pk_sub (by omega), show p.1 - 1 - 1 = p.1 - 2 by omega]) ?_
      refine J_xl (pc := 124) dX11_byLaw_124 (by first | rfl | assumption) (by first | with_reducible rfl | assumption | exact ix_nI _ | rfl) ⟨by first | decide | omega, by decide⟩ ?_
      rw [sXX_s]
      refine J_aload_n (pc := 125) dX11_byLaw_125 rfl ?_
      refine J_getr (pc := 126) dX11_byLaw_126 kc11 fl_X11_64 rfl ?_
      refine J_iload_n (pc := 129) dX11_byLaw_129 rfl ?_
      refine J_xl (pc := 130) dX11_byLaw_130 (by first | rfl | assumption) (by first | with_reducible rfl | assumption | exact ix_nI _ | rfl) ⟨by first | decide | omega, by decide⟩ ?_
      rw [sXX_s]
      refine J_csr (pc := 131) (N := mX11_by) dX11_byLaw_131 ml_X11_251 cf_X11_by cs_X11_by (r_X11_by ⟨w2, (hW.2 k hk).1⟩) rfl rfl (Nat.le_of_ble_eq_true rfl) (by decide) ?_
      refine J_xs (pc := 134) dX11_byLaw_134 (by first | rfl | assumption) (by first | with_reducible rfl | assumption | exact ix_nI _ | rfl) ⟨by first | decide | omega, by decide⟩ ?_
      refine J_iinc (pc := 135) (v := 1) dX11_byLaw_135 rfl (by decide) rfl ?_
      refine J_goto (pc := 138) (tgt := 32) dX11_byLaw_138 (by decide) ?_
      rw [sXX_put]
      exact J_cg1 (by first | rfl | (rw [← nI_1]; rfl)) ih
    · have w2 : (wv k).1 < 2 := Nat.lt_of_not_le (fun q => c49 ((nI_leI (a := 2) (by decide) (by have := (hW.2 k hk).1; omega)).mpr q))
      have hd4 := (hW.2 k hk).2.2.2.2
      rw [← lst_dep wv (sx S 453) f0 (k + 1)] at hd4
      have hls : lst wv (sx S 453) f0 (k + 1) = lstep (wv k).1 (wv k).2 (sx S 453) (lst wv (sx S 453) f0 k) := rfl
      unfold lstep at hls
      rw [if_pos w2] at hls
      rw [hls] at hd4
      rw [hls] at ih
      generalize lst wv (sx S 453) f0 k = p at *
      dsimp only at hd4 ih
      refine J_aload_n (pc := 52) dX11_byLaw_52 rfl ?_
      refine J_getr (pc := 53) dX11_byLaw_53 kc11 fl_X11_64 rfl ?_
      refine J_iload_n (pc := 56) dX11_byLaw_56 rfl ?_
      refine J_aload_n (pc := 57) dX11_byLaw_57 rfl ?_
      refine J_getr (pc := 58) dX11_byLaw_58 kc11 fl_X11_52 rfl ?_
      refine J_iload_n (pc := 61) dX11_byLaw_61 rfl ?_
      refine J_ar1 (pc := 62) dX11_byLaw_62 rfl (ix_nI k) ⟨by have := hW.1; omega, by decide⟩ ?_
      refine J_iconst (pc := 63) (v := 0) dX11_byLaw_63 (by decide) ?_
      refine J_il (pc := 64) dX11_byLaw_64 (lay_law (by have := hW.1; omega)) (rfl : (0 : Int32) = nI 0) ⟨by decide, by decide⟩ ?_
      refine J_t1 (y := nI (wv k).1) ((hM.2 k hk).1) ?_
      refine J_if_ne (pc := 65) (tgt := 79) dX11_byLaw_65 (by decide) (fun c65 => ?_) (fun c65 => ?_)
      · rw [if_neg (fun q => c65 (by rw [q]; rfl))] at ih
        have w1 : (wv k).1 = 1 := by
          have : (wv k).1 ≠ 0 := fun q => c65 (by rw [q]; rfl)
          omega
        refine J_aload_n (pc := 79) dX11_byLaw_79 rfl ?_
        refine J_getr (pc := 80) dX11_byLaw_80 kc11 fl_X11_67 rfl ?_
        refine J_aload_n (pc := 83) dX11_byLaw_83 rfl ?_
        refine J_getr (pc := 84) dX11_byLaw_84 kc11 fl_X11_52 rfl ?_
        refine J_iload_n (pc := 87) dX11_byLaw_87 rfl ?_
        refine J_ar1 (pc := 88) dX11_byLaw_88 rfl (ix_nI k) ⟨by have := hW.1; omega, by decide⟩ ?_
        refine J_iconst (pc := 89) (v := 1) dX11_byLaw_89 (by decide) ?_
        refine J_il (pc := 90) dX11_byLaw_90 (lay_law (by have := hW.1; omega)) (rfl : (1 : Int32) = nI 1) ⟨by decide, by decide⟩ ?_
        refine J_t1 (y := nI (wv k).2) ((hM.2 k hk).2) ?_
        refine J_xl (pc := 91) dX11_byLaw_91 (by first | rfl | assumption) rfl ⟨(hW.2 k hk).2.2.1 w1, by decide⟩ ?_
        refine J_xs (pc := 92) dX11_byLaw_92 (by first | rfl | assumption) (by first | with_reducible rfl | assumption | exact ix_nI _ | rfl) ⟨by omega, by decide⟩ ?_
        refine J_iinc (pc := 93) (v := 1) dX11_byLaw_93 rfl (by decide) rfl ?_
        refine J_goto (pc := 96) (tgt := 135) dX11_byLaw_96 (by decide) ?_
        refine J_iinc (pc := 135) (v := 1) dX11_byLaw_135 rfl (by decide) rfl ?_
        refine J_goto (pc := 138) (tgt := 32) dX11_byLaw_138 (by decide) ?_
        rw [sXX_put]
        exact J_cg1 (by first | rfl | (rw [← nI_1]; rfl)) ih
      · rw [if_pos ((nI_eq (b := 0) (by have := (hW.2 k hk).1; omega) (by decide)).mp c65)] at ih
        refine J_aload_n (pc := 68) dX11_byLaw_68 rfl ?_
        refine J_getr (pc := 69) dX11_byLaw_69 kc11 fl_X11_52 rfl ?_
        refine J_iload_n (pc := 72) dX11_byLaw_72 rfl ?_
        refine J_ar1 (pc := 73) dX11_byLaw_73 rfl (ix_nI k) ⟨by have := hW.1; omega, by decide⟩ ?_
        refine J_iconst (pc := 74) (v := 1) dX11_byLaw_74 (by decide) ?_
        refine J_il (pc := 75) dX11_byLaw_75 (lay_law (by have := hW.1; omega)) (rfl : (1 : Int32) = nI 1) ⟨by decide, by decide⟩ ?_
        refine J_t1 (y := nI (wv k).2) ((hM.2 k hk).2) ?_
        refine J_goto (pc := 76) (tgt := 92) dX11_byLaw_76 (by decide) ?_
        refine J_xs (pc := 92) dX11_byLaw_92 (by first | rfl | assumption) (by first | with_reducible rfl | assumption | exact ix_nI _ | rfl) ⟨by omega, by decide⟩ ?_
        refine J_iinc (pc := 93) (v := 1) dX11_byLaw_93 rfl (by decide) rfl ?_
        refine J_goto (pc := 96) (tgt := 135) dX11_byLaw_96 (by decide) ?_
        refine J_iinc (pc := 135) (v := 1) dX11_byLaw_135 rfl (by decide) rfl ?_
        refine J_goto (pc := 138) (tgt := 32) dX11_byLaw_138 (by decide) ?_
        rw [sXX_put]
        exact J_cg1 (by first | rfl | (rw [← nI_1]; rfl)) ih
