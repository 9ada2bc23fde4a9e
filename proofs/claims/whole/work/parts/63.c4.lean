def tdC (S : Sx) (q m : Nat) (d : HD) (wv : Nat → Nat × Nat) (f : Row) (w : Nat) : Int32 := match w with
  | 0 => nI (dNs d)
  | 1 => nI (dNr d)
  | 2 => nI (dNp d)
  | 3 => f 44
  | 4 => msk (fun s => decide (f (0 + s) = 0)) (dNs d)
  | 5 => msk (fun r => decide (f (16 + r) ≠ -1)) (dNr d)
  | 6 => msk (fun p => decide (f (36 + p) ≠ -1)) (dNp d)
  | 7 => msk (fun r => decide (f (26 + r) = 1)) (dNr d)
  | 8 => sf S q 1
  | 9 => sf S 0 13
  | _ => sm (pwN d m wv f) (dNr d)
theorem r_X10_told {g : Gp} {S : Sx} {a b m : Nat} {d : HD} {wv : Nat → Nat × Nat} {f : Row} (hX : CX S 3 16 17 a b d m wv f) {q w : Nat} (hps : sp S 0 9 = q) (hSL : SLa q) (hw : w ≤ 10) : RW g mX10_told 7 [.ref 0, .int (nI w)] S (some (.int (tdC S q m d wv f w))) S := by
  refine RW_ofQ ⟨rfl, rfl⟩ (Nat.le_of_ble_eq_true rfl) (fun T sz Q hQ => ?_)
  obtain ⟨hCL, hHL, hLL, hp2, hp3, hHC, hv, hW, hLC, hRC⟩ := id hX
  have n1 : dNs d ≤ 8 := hv.1
  have n2 : dNr d ≤ 10 := hv.2.1
  have n3 : dNp d ≤ 8 := hv.2.2.1
  obtain rfl | rfl | rfl | rfl | rfl | rfl | rfl | rfl | rfl | rfl | rfl : w = 0 ∨ w = 1 ∨ w = 2 ∨ w = 3 ∨ w = 4 ∨ w = 5 ∨ w = 6 ∨ w = 7 ∨ w = 8 ∨ w = 9 ∨ w = 10 := by omega
  · refine J_aload_n (pc := 0) dX10_told_0 rfl ?_
    refine J_iload_n (pc := 1) dX10_told_1 rfl ?_
    refine J_iconst (pc := 2) (v := 0) dX10_told_2 (by decide) ?_
    refine J_bipush (pc := 3) (v := 10) dX10_told_3 (by decide) ?_
    refine J_csr (pc := 5) (N := mX10_isWithin) dX10_told_5 ml_X10_177 cf_X10_isWithin cs_X10_isWithin r_X10_isWithin rfl rfl (Nat.le_of_ble_eq_true rfl) (by decide) ?_
    refine J_t1 (bI_t (by decide)) ?_
    refine J_cvv (pc := 8) (N := mX10_needArgument) dX10_told_8 ml_X10_181 cf_X10_needArgument cv_X10_needArgument r_X10_needArgument_ok rfl rfl (Nat.le_of_ble_eq_true rfl) (by decide) (rv_of (ci := 10) rfl rfl rfl) ?_
    refine J_iload_n (pc := 11) dX10_told_11 rfl ?_
    refine J_tableIn (pc := 12) (off := 56) (tgt := 68) dX10_told_12 (by decide) (by decide) (by decide) (by decide) ?_
    refine J_aload_n (pc := 68) dX10_told_68 rfl ?_
    refine J_getr (pc := 69) dX10_told_69 kc10 fl_X10_27 rfl ?_
    refine J_getpN (pc := 72) dX10_told_72 kc0 fl_X10_54 (by first | exact cvn_p2 (by assumption) | rfl) ?_
    refine J_tr hp2 ?_
    refine J_getiN (pc := 75) dX10_told_75 kc1 fl_X10_185 (by first | exact hou_i8 (by assumption) | rfl) ?_
    exact J_iret (pc := 78) rfl rfl rfl dX10_told_78 (rqw hQ hHC.1 rfl)
  · refine J_aload_n (pc := 0) dX10_told_0 rfl ?_
    refine J_iload_n (pc := 1) dX10_told_1 rfl ?_
    refine J_iconst (pc := 2) (v := 0) dX10_told_2 (by decide) ?_
    refine J_bipush (pc := 3) (v := 10) dX10_told_3 (by decide) ?_
    refine J_csr (pc := 5) (N := mX10_isWithin) dX10_told_5 ml_X10_177 cf_X10_isWithin cs_X10_isWithin r_X10_isWithin rfl rfl (Nat.le_of_ble_eq_true rfl) (by decide) ?_
    refine J_t1 (bI_t (by decide)) ?_
    refine J_cvv (pc := 8) (N := mX10_needArgument) dX10_told_8 ml_X10_181 cf_X10_needArgument cv_X10_needArgument r_X10_needArgument_ok rfl rfl (Nat.le_of_ble_eq_true rfl) (by decide) (rv_of (ci := 10) rfl rfl rfl) ?_
    refine J_iload_n (pc := 11) dX10_told_11 rfl ?_
    refine J_tableIn (pc := 12) (off := 67) (tgt := 79) dX10_told_12 (by decide) (by decide) (by decide) (by decide) ?_
    refine J_aload_n (pc := 79) dX10_told_79 rfl ?_
    refine J_getr (pc := 80) dX10_told_80 kc10 fl_X10_27 rfl ?_
    refine J_getpN (pc := 83) dX10_told_83 kc0 fl_X10_54 (by first | exact cvn_p2 (by assumption) | rfl) ?_
    refine J_tr hp2 ?_
    refine J_getiN (pc := 86) dX10_told_86 kc1 fl_X10_136 (by first | exact hou_i9 (by assumption) | rfl) ?_
    exact J_iret (pc := 89) rfl rfl rfl dX10_told_89 (rqw hQ hHC.2.1 rfl)
  · refine J_aload_n (pc := 0) dX10_told_0 rfl ?_
    refine J_iload_n (pc := 1) dX10_told_1 rfl ?_
    refine J_iconst (pc := 2) (v := 0) dX10_told_2 (by decide) ?_
    refine J_bipush (pc := 3) (v := 10) dX10_told_3 (by decide) ?_
    refine J_csr (pc := 5) (N := mX10_isWithin) dX10_told_5 ml_X10_177 cf_X10_isWithin cs_X10_isWithin r_X10_isWithin rfl rfl (Nat.le_of_ble_eq_true rfl) (by decide) ?_
    refine J_t1 (bI_t (by decide)) ?_
    refine J_cvv (pc := 8) (N := mX10_needArgument) dX10_told_8 ml_X10_181 cf_X10_needArgument cv_X10_needArgument r_X10_needArgument_ok rfl rfl (Nat.le_of_ble_eq_true rfl) (by decide) (rv_of (ci := 10) rfl rfl rfl) ?_
    refine J_iload_n (pc := 11) dX10_told_11 rfl ?_
    refine J_tableIn (pc := 12) (off := 78) (tgt := 90) dX10_told_12 (by decide) (by decide) (by decide) (by decide) ?_
    refine J_aload_n (pc := 90) dX10_told_90 rfl ?_
    refine J_getr (pc := 91) dX10_told_91 kc10 fl_X10_27 rfl ?_
    refine J_getpN (pc := 94) dX10_told_94 kc0 fl_X10_54 (by first | exact cvn_p2 (by assumption) | rfl) ?_
    refine J_tr hp2 ?_
    refine J_getiN (pc := 97) dX10_told_97 kc1 fl_X10_188 (by first | exact hou_i10 (by assumption) | rfl) ?_
    exact J_iret (pc := 100) rfl rfl rfl dX10_told_100 (rqw hQ hHC.2.2.1 rfl)
  · refine J_aload_n (pc := 0) dX10_told_0 rfl ?_
    refine J_iload_n (pc := 1) dX10_told_1 rfl ?_
    refine J_iconst (pc := 2) (v := 0) dX10_told_2 (by decide) ?_
    refine J_bipush (pc := 3) (v := 10) dX10_told_3 (by decide) ?_
    refine J_csr (pc := 5) (N := mX10_isWithin) dX10_told_5 ml_X10_177 cf_X10_isWithin cs_X10_isWithin r_X10_isWithin rfl rfl (Nat.le_of_ble_eq_true rfl) (by decide) ?_
    refine J_t1 (bI_t (by decide)) ?_
    refine J_cvv (pc := 8) (N := mX10_needArgument) dX10_told_8 ml_X10_181 cf_X10_needArgument cv_X10_needArgument r_X10_needArgument_ok rfl rfl (Nat.le_of_ble_eq_true rfl) (by decide) (rv_of (ci := 10) rfl rfl rfl) ?_
    refine J_iload_n (pc := 11) dX10_told_11 rfl ?_
    refine J_tableIn (pc := 12) (off := 89) (tgt := 101) dX10_told_12 (by decide) (by decide) (by decide) (by decide) ?_
    refine J_aload_n (pc := 101) dX10_told_101 rfl ?_
    refine J_getr (pc := 102) dX10_told_102 kc10 fl_X10_27 rfl ?_
    refine J_getrN (pc := 105) dX10_told_105 kc0 fl_X10_146 (by first | exact cvn_r0 (by assumption) | rfl) ?_
    refine J_iconst (pc := 108) (v := 0) dX10_told_108 (by decide) ?_
    refine J_il (pc := 109) dX10_told_109 (by first | exact cvn_e (by assumption) | rfl) (rfl : (0 : Int32) = nI 0) ⟨by first | decide | omega, by decide⟩ ?_
    exact J_iret (pc := 110) rfl rfl rfl dX10_told_110 (rqw hQ hRC.1 rfl)
  · refine J_aload_n (pc := 0) dX10_told_0 rfl ?_
    refine J_iload_n (pc := 1) dX10_told_1 rfl ?_
    refine J_iconst (pc := 2) (v := 0) dX10_told_2 (by decide) ?_
    refine J_bipush (pc := 3) (v := 10) dX10_told_3 (by decide) ?_
    refine J_csr (pc := 5) (N := mX10_isWithin) dX10_told_5 ml_X10_177 cf_X10_isWithin cs_X10_isWithin r_X10_isWithin rfl rfl (Nat.le_of_ble_eq_true rfl) (by decide) ?_
    refine J_t1 (bI_t (by decide)) ?_
    refine J_cvv (pc := 8) (N := mX10_needArgument) dX10_told_8 ml_X10_181 cf_X10_needArgument cv_X10_needArgument r_X10_needArgument_ok rfl rfl (Nat.le_of_ble_eq_true rfl) (by decide) (rv_of (ci := 10) rfl rfl rfl) ?_
    refine J_iload_n (pc := 11) dX10_told_11 rfl ?_
    refine J_tableIn (pc := 12) (off := 99) (tgt := 111) dX10_told_12 (by decide) (by decide) (by decide) (by decide) ?_
    refine J_aload_n (pc := 111) dX10_told_111 rfl ?_
    refine J_getr (pc := 112) dX10_told_112 kc10 fl_X10_27 rfl ?_
    refine J_getrN (pc := 115) dX10_told_115 kc0 fl_X10_146 (by first | exact cvn_r0 (by assumption) | rfl) ?_
    refine J_iconst (pc := 118) (v := 1) dX10_told_118 (by decide) ?_
    refine J_il (pc := 119) dX10_told_119 (by first | exact cvn_e (by assumption) | rfl) (rfl : (1 : Int32) = nI 1) ⟨by first | decide | omega, by decide⟩ ?_
    exact J_iret (pc := 120) rfl rfl rfl dX10_told_120 (rqw hQ hRC.2.1 rfl)
  · refine J_aload_n (pc := 0) dX10_told_0 rfl ?_
    refine J_iload_n (pc := 1) dX10_told_1 rfl ?_
    refine J_iconst (pc := 2) (v := 0) dX10_told_2 (by decide) ?_
    refine J_bipush (pc := 3) (v := 10) dX10_told_3 (by decide) ?_
    refine J_csr (pc := 5) (N := mX10_isWithin) dX10_told_5 ml_X10_177 cf_X10_isWithin cs_X10_isWithin r_X10_isWithin rfl rfl (Nat.le_of_ble_eq_true rfl) (by decide) ?_
    refine J_t1 (bI_t (by decide)) ?_
    refine J_cvv (pc := 8) (N := mX10_needArgument) dX10_told_8 ml_X10_181 cf_X10_needArgument cv_X10_needArgument r_X10_needArgument_ok rfl rfl (Nat.le_of_ble_eq_true rfl) (by decide) (rv_of (ci := 10) rfl rfl rfl) ?_
    refine J_iload_n (pc := 11) dX10_told_11 rfl ?_
    refine J_tableIn (pc := 12) (off := 109) (tgt := 121) dX10_told_12 (by decide) (by decide) (by decide) (by decide) ?_
    refine J_aload_n (pc := 121) dX10_told_121 rfl ?_
    refine J_getr (pc := 122) dX10_told_122 kc10 fl_X10_27 rfl ?_
    refine J_getrN (pc := 125) dX10_told_125 kc0 fl_X10_146 (by first | exact cvn_r0 (by assumption) | rfl) ?_
    refine J_iconst (pc := 128) (v := 2) dX10_told_128 (by decide) ?_
    refine J_il (pc := 129) dX10_told_129 (by first | exact cvn_e (by assumption) | rfl) (rfl : (2 : Int32) = nI 2) ⟨by first | decide | omega, by decide⟩ ?_
    exact J_iret (pc := 130) rfl rfl rfl dX10_told_130 (rqw hQ hRC.2.2.1 rfl)
  · refine J_aload_n (pc := 0) dX10_told_0 rfl ?_
    refine J_iload_n (pc := 1) dX10_told_1 rfl ?_
    refine J_iconst (pc := 2) (v := 0) dX10_told_2 (by decide) ?_
    refine J_bipush (pc := 3) (v := 10) dX10_told_3 (by decide) ?_
    refine J_csr (pc := 5) (N := mX10_isWithin) dX10_told_5 ml_X10_177 cf_X10_isWithin cs_X10_isWithin r_X10_isWithin rfl rfl (Nat.le_of_ble_eq_true rfl) (by decide) ?_
    refine J_t1 (bI_t (by decide)) ?_
    refine J_cvv (pc := 8) (N := mX10_needArgument) dX10_told_8 ml_X10_181 cf_X10_needArgument cv_X10_needArgument r_X10_needArgument_ok rfl rfl (Nat.le_of_ble_eq_true rfl) (by decide) (rv_of (ci := 10) rfl rfl rfl) ?_
    refine J_iload_n (pc := 11) dX10_told_11 rfl ?_
    refine J_tableIn (pc := 12) (off := 119) (tgt := 131) dX10_told_12 (by decide) (by decide) (by decide) (by decide) ?_
    refine J_aload_n (pc := 131) dX10_told_131 rfl ?_
    refine J_getr (pc := 132) dX10_told_132 kc10 fl_X10_27 rfl ?_
    refine J_getrN (pc := 135) dX10_told_135 kc0 fl_X10_146 (by first | exact cvn_r0 (by assumption) | rfl) ?_
    refine J_iconst (pc := 138) (v := 3) dX10_told_138 (by decide) ?_
    refine J_il (pc := 139) dX10_told_139 (by first | exact cvn_e (by assumption) | rfl) (rfl : (3 : Int32) = nI 3) ⟨by first | decide | omega, by decide⟩ ?_
    exact J_iret (pc := 140) rfl rfl rfl dX10_told_140 (rqw hQ hRC.2.2.2.1 rfl)
  · refine J_aload_n (pc := 0) dX10_told_0 rfl ?_
    refine J_iload_n (pc := 1) dX10_told_1 rfl ?_
    refine J_iconst (pc := 2) (v := 0) dX10_told_2 (by decide) ?_
    refine J_bipush (pc := 3) (v := 10) dX10_told_3 (by decide) ?_
    refine J_csr (pc := 5) (N := mX10_isWithin) dX10_told_5 ml_X10_177 cf_X10_isWithin cs_X10_isWithin r_X10_isWithin rfl rfl (Nat.le_of_ble_eq_true rfl) (by decide) ?_
    refine J_t1 (bI_t (by decide)) ?_
    refine J_cvv (pc := 8) (N := mX10_needArgument) dX10_told_8 ml_X10_181 cf_X10_needArgument cv_X10_needArgument r_X10_needArgument_ok rfl rfl (Nat.le_of_ble_eq_true rfl) (by decide) (rv_of (ci := 10) rfl rfl rfl) ?_
    refine J_iload_n (pc := 11) dX10_told_11 rfl ?_
    refine J_tableIn (pc := 12) (off := 129) (tgt := 141) dX10_told_12 (by decide) (by decide) (by decide) (by decide) ?_
    refine J_aload_n (pc := 141) dX10_told_141 rfl ?_
    refine J_getr (pc := 142) dX10_told_142 kc10 fl_X10_27 rfl ?_
    refine J_getrN (pc := 145) dX10_told_145 kc0 fl_X10_146 (by first | exact cvn_r0 (by assumption) | rfl) ?_
    refine J_iconst (pc := 148) (v := 4) dX10_told_148 (by decide) ?_
    refine J_il (pc := 149) dX10_told_149 (by first | exact cvn_e (by assumption) | rfl) (rfl : (4 : Int32) = nI 4) ⟨by first | decide | omega, by decide⟩ ?_
    exact J_iret (pc := 150) rfl rfl rfl dX10_told_150 (rqw hQ hRC.2.2.2.2.1 rfl)
  · refine J_aload_n (pc := 0) dX10_told_0 rfl ?_
    refine J_iload_n (pc := 1) dX10_told_1 rfl ?_
    refine J_iconst (pc := 2) (v := 0) dX10_told_2 (by decide) ?_
    refine J_bipush (pc := 3) (v := 10) dX10_told_3 (by decide) ?_
    refine J_csr (pc := 5) (N := mX10_isWithin) dX10_told_5 ml_X10_177 cf_X10_isWithin cs_X10_isWithin r_X10_isWithin rfl rfl (Nat.le_of_ble_eq_true rfl) (by decide) ?_
    refine J_t1 (bI_t (by decide)) ?_
    refine J_cvv (pc := 8) (N := mX10_needArgument) dX10_told_8 ml_X10_181 cf_X10_needArgument cv_X10_needArgument r_X10_needArgument_ok rfl rfl (Nat.le_of_ble_eq_true rfl) (by decide) (rv_of (ci := 10) rfl rfl rfl) ?_
    refine J_iload_n (pc := 11) dX10_told_11 rfl ?_
    refine J_tableIn (pc := 12) (off := 139) (tgt := 151) dX10_told_12 (by decide) (by decide) (by decide) (by decide) ?_
    refine J_aload_n (pc := 151) dX10_told_151 rfl ?_
    refine J_getp (pc := 152) dX10_told_152 kc10 fl_X10_86 rfl ?_
    refine J_tr hps ?_
    refine J_getiN (pc := 155) dX10_told_155 kc6 fl_X10_168 (by first | exact sgt_i1 (by assumption) | rfl) ?_
    exact J_iret (pc := 158) rfl rfl rfl dX10_told_158 (rqw hQ rfl rfl)
  · refine J_aload_n (pc := 0) dX10_told_0 rfl ?_
    refine J_iload_n (pc := 1) dX10_told_1 rfl ?_
    refine J_iconst (pc := 2) (v := 0) dX10_told_2 (by decide) ?_
    refine J_bipush (pc := 3) (v := 10) dX10_told_3 (by decide) ?_
    refine J_csr (pc := 5) (N := mX10_isWithin) dX10_told_5 ml_X10_177 cf_X10_isWithin cs_X10_isWithin r_X10_isWithin rfl rfl (Nat.le_of_ble_eq_true rfl) (by decide) ?_
    refine J_t1 (bI_t (by decide)) ?_
    refine J_cvv (pc := 8) (N := mX10_needArgument) dX10_told_8 ml_X10_181 cf_X10_needArgument cv_X10_needArgument r_X10_needArgument_ok rfl rfl (Nat.le_of_ble_eq_true rfl) (by decide) (rv_of (ci := 10) rfl rfl rfl) ?_
    refine J_iload_n (pc := 11) dX10_told_11 rfl ?_
    refine J_tableIn (pc := 12) (off := 147) (tgt := 159) dX10_told_12 (by decide) (by decide) (by decide) (by decide) ?_
    refine J_aload_n (pc := 159) dX10_told_159 rfl ?_
    refine J_geti (pc := 160) dX10_told_160 kc10 fl_X10_133 rfl ?_
    exact J_iret (pc := 163) rfl rfl rfl dX10_told_163 (rqw hQ rfl rfl)
  · refine J_aload_n (pc := 0) dX10_told_0 rfl ?_
    refine J_iload_n (pc := 1) dX10_told_1 rfl ?_
    refine J_iconst (pc := 2) (v := 0) dX10_told_2 (by decide) ?_
    refine J_bipush (pc := 3) (v := 10) dX10_told_3 (by decide) ?_
    refine J_csr (pc := 5) (N := mX10_isWithin) dX10_told_5 ml_X10_177 cf_X10_isWithin cs_X10_isWithin r_X10_isWithin rfl rfl (Nat.le_of_ble_eq_true rfl) (by decide) ?_
    refine J_t1 (bI_t (by decide)) ?_
    refine J_cvv (pc := 8) (N := mX10_needArgument) dX10_told_8 ml_X10_181 cf_X10_needArgument cv_X10_needArgument r_X10_needArgument_ok rfl rfl (Nat.le_of_ble_eq_true rfl) (by decide) (rv_of (ci := 10) rfl rfl rfl) ?_
    refine J_iload_n (pc := 11) dX10_told_11 rfl ?_
    refine J_tableOut (pc := 12) (tgt := 164) dX10_told_12 (by decide) (by decide) ?_
    refine J_aload_n (pc := 164) dX10_told_164 rfl ?_
    refine J_getr (pc := 165) dX10_told_165 kc10 fl_X10_27 rfl ?_
    refine J_cnw (pc := 168) (N := mX0_powerOfAll) dX10_told_168 ml_X10_191 cf_X0_powerOfAll cv_X0_powerOfAll (r_X0_powerOfAll hX) rfl rfl (Nat.le_of_ble_eq_true rfl) (by decide) (rv_of (ci := 0) (by first | exact cvn_n (by assumption) | rfl) rfl rfl) ?_
    intro T
    exact J_iret (pc := 171) rfl rfl rfl dX10_told_171 (rqw hQ rfl rfl)
def ssC (d : HD) (f : Row) (s w : Nat) : Int32 := match w with
  | 0 => nI (dTm d s)
  | 1 => f (8 + s)
  | 2 => msk (fun r => decide (dOw d r = s)) (dNr d)
  | 3 => kM d f s
  | _ => ov (d.2.1 s)
theorem r_X10_sister {g : Gp} {S : Sx} {a b m : Nat} {d : HD} {wv : Nat → Nat × Nat} {f : Row} (hX : CX S 3 16 17 a b d m wv f) {s w : Nat} (hs' : s < dNs d) (hw : w ≤ 4) : RT g mX10_sister 2 [.ref 0, .int (nI s), .int (nI w)] S (some (.int (ssC d f s w))) S := by
  refine RT_ofQ ⟨rfl, rfl⟩ (Nat.le_of_ble_eq_true rfl) (fun sz Q hQ => ?_)
  obtain ⟨hCL, hHL, hLL, hp2, hp3, hHC, hv, hW, hLC, hRC⟩ := id hX
  have n1 : dNs d ≤ 8 := hv.1
  have n2 : dNr d ≤ 10 := hv.2.1
  have n3 : dNp d ≤ 8 := hv.2.2.1
  obtain rfl | rfl | rfl | rfl | rfl : w = 0 ∨ w = 1 ∨ w = 2 ∨ w = 3 ∨ w = 4 := by omega
  · refine J_aload_n (pc := 0) dX10_sister_0 rfl ?_
    refine J_aload_n (pc := 1) dX10_sister_1 rfl ?_
    refine J_getr (pc := 2) dX10_sister_2 kc10 fl_X10_27 rfl ?_
    refine J_getpN (pc := 5) dX10_sister_5 kc0 fl_X10_54 (by first | exact cvn_p2 (by assumption) | rfl) ?_
    refine J_tr hp2 ?_
    refine J_iload_n (pc := 8) dX10_sister_8 rfl ?_
    refine J_cnr (pc := 9) (N := mX1_hasSister) dX10_sister_9 ml_X10_195 cf_X1_hasSister cv_X1_hasSister (r_X1_hasSister hHL hHC hv) rfl rfl (Nat.le_of_ble_eq_true rfl) (by decide) (rv_of (ci := 1) (by first | exact hou_n (by assumption) | rfl) rfl rfl) ?_
    refine J_t1 (bI_t (in_nI hs' (by omega))) ?_
    refine J_cvv (pc := 12) (N := mX10_needElement) dX10_sister_12 ml_X10_199 cf_X10_needElement cv_X10_needElement r_X10_needElement_ok rfl rfl (Nat.le_of_ble_eq_true rfl) (by decide) (rv_of (ci := 10) rfl rfl rfl) ?_
    refine J_aload_n (pc := 15) dX10_sister_15 rfl ?_
    refine J_iload_n (pc := 16) dX10_sister_16 rfl ?_
    refine J_iconst (pc := 17) (v := 0) dX10_sister_17 (by decide) ?_
    refine J_iconst (pc := 18) (v := 4) dX10_sister_18 (by decide) ?_
    refine J_csr (pc := 19) (N := mX10_isWithin) dX10_sister_19 ml_X10_177 cf_X10_isWithin cs_X10_isWithin r_X10_isWithin rfl rfl (Nat.le_of_ble_eq_true rfl) (by decide) ?_
    refine J_t1 (bI_t (by decide)) ?_
    refine J_cvv (pc := 22) (N := mX10_needArgument) dX10_sister_22 ml_X10_181 cf_X10_needArgument cv_X10_needArgument r_X10_needArgument_ok rfl rfl (Nat.le_of_ble_eq_true rfl) (by decide) (rv_of (ci := 10) rfl rfl rfl) ?_
    refine J_iload_n (pc := 25) dX10_sister_25 rfl ?_
    refine J_tableIn (pc := 26) (off := 30) (tgt := 56) dX10_sister_26 (by decide) (by decide) (by decide) (by decide) ?_
    refine J_aload_n (pc := 56) dX10_sister_56 rfl ?_
    refine J_getr (pc := 57) dX10_sister_57 kc10 fl_X10_27 rfl ?_
    refine J_getpN (pc := 60) dX10_sister_60 kc0 fl_X10_54 (by first | exact cvn_p2 (by assumption) | rfl) ?_
    refine J_tr hp2 ?_
    refine J_getrN (pc := 63) dX10_sister_63 kc1 fl_X10_202 (by first | exact hou_r0 (by assumption) | rfl) ?_
    refine J_iload_n (pc := 66) dX10_sister_66 rfl ?_
    refine J_il (pc := 67) dX10_sister_67 (by first | exact hou_a0 (by assumption) | rfl) (by first | with_reducible rfl | assumption | exact ix_nI _ | rfl) ⟨by first | decide | omega, by decide⟩ ?_
    exact J_iret (pc := 68) rfl rfl rfl dX10_sister_68 (rq hQ (hHC.2.2.2.1 _ hs').1 rfl)
  · refine J_aload_n (pc := 0) dX10_sister_0 rfl ?_
    refine J_aload_n (pc := 1) dX10_sister_1 rfl ?_
    refine J_getr (pc := 2) dX10_sister_2 kc10 fl_X10_27 rfl ?_
    refine J_getpN (pc := 5) dX10_sister_5 kc0 fl_X10_54 (by first | exact cvn_p2 (by assumption) | rfl) ?_
    refine J_tr hp2 ?_
    refine J_iload_n (pc := 8) dX10_sister_8 rfl ?_
    refine J_cnr (pc := 9) (N := mX1_hasSister) dX10_sister_9 ml_X10_195 cf_X1_hasSister cv_X1_hasSister (r_X1_hasSister hHL hHC hv) rfl rfl (Nat.le_of_ble_eq_true rfl) (by decide) (rv_of (ci := 1) (by first | exact hou_n (by assumption) | rfl) rfl rfl) ?_
    refine J_t1 (bI_t (in_nI hs' (by omega))) ?_
    refine J_cvv (pc := 12) (N := mX10_needElement) dX10_sister_12 ml_X10_199 cf_X10_needElement cv_X10_needElement r_X10_needElement_ok rfl rfl (Nat.le_of_ble_eq_true rfl) (by decide) (rv_of (ci := 10) rfl rfl rfl) ?_
    refine J_aload_n (pc := 15) dX10_sister_15 rfl ?_
    refine J_iload_n (pc := 16) dX10_sister_16 rfl ?_
    refine J_iconst (pc := 17) (v := 0) dX10_sister_17 (by decide) ?_
    refine J_iconst (pc := 18) (v := 4) dX10_sister_18 (by decide) ?_
    refine J_csr (pc := 19) (N := mX10_isWithin) dX10_sister_19 ml_X10_177 cf_X10_isWithin cs_X10_isWithin r_X10_isWithin rfl rfl (Nat.le_of_ble_eq_true rfl) (by decide) ?_
    refine J_t1 (bI_t (by decide)) ?_
    refine J_cvv (pc := 22) (N := mX10_needArgument) dX10_sister_22 ml_X10_181 cf_X10_needArgument cv_X10_needArgument r_X10_needArgument_ok rfl rfl (Nat.le_of_ble_eq_true rfl) (by decide) (rv_of (ci := 10) rfl rfl rfl) ?_
    refine J_iload_n (pc := 25) dX10_sister_25 rfl ?_
    refine J_tableIn (pc := 26) (off := 43) (tgt := 69) dX10_sister_26 (by decide) (by decide) (by decide) (by decide) ?_
    refine J_aload_n (pc := 69) dX10_sister_69 rfl ?_
    refine J_getr (pc := 70) dX10_sister_70 kc10 fl_X10_27 rfl ?_
    refine J_getrN (pc := 73) dX10_sister_73 kc0 fl_X10_146 (by first | exact cvn_r0 (by assumption) | rfl) ?_
    refine J_bipush (pc := 76) (v := 15) dX10_sister_76 (by decide) ?_
    refine J_iload_n (pc := 78) dX10_sister_78 rfl ?_
    refine J_iadd (pc := 79) dX10_sister_79 ?_
    refine J_il (pc := 80) dX10_sister_80 (by first | exact cvn_e (by assumption) | rfl) (by first | exact nI_add 15 _ | (rw [ix_nI]; exact nI_add 15 _)) ⟨by first | decide | omega, by decide⟩ ?_
    exact J_iret (pc := 81) rfl rfl rfl dX10_sister_81 (rq hQ (hRC.2.2.2.2.2.2.1 _ hs') rfl)
  · refine J_aload_n (pc := 0) dX10_sister_0 rfl ?_
    refine J_aload_n (pc := 1) dX10_sister_1 rfl ?_
    refine J_getr (pc := 2) dX10_sister_2 kc10 fl_X10_27 rfl ?_
    refine J_getpN (pc := 5) dX10_sister_5 kc0 fl_X10_54 (by first | exact cvn_p2 (by assumption) | rfl) ?_
    refine J_tr hp2 ?_
    refine J_iload_n (pc := 8) dX10_sister_8 rfl ?_
    refine J_cnr (pc := 9) (N := mX1_hasSister) dX10_sister_9 ml_X10_195 cf_X1_hasSister cv_X1_hasSister (r_X1_hasSister hHL hHC hv) rfl rfl (Nat.le_of_ble_eq_true rfl) (by decide) (rv_of (ci := 1) (by first | exact hou_n (by assumption) | rfl) rfl rfl) ?_
    refine J_t1 (bI_t (in_nI hs' (by omega))) ?_
    refine J_cvv (pc := 12) (N := mX10_needElement) dX10_sister_12 ml_X10_199 cf_X10_needElement cv_X10_needElement r_X10_needElement_ok rfl rfl (Nat.le_of_ble_eq_true rfl) (by decide) (rv_of (ci := 10) rfl rfl rfl) ?_
    refine J_aload_n (pc := 15) dX10_sister_15 rfl ?_
    refine J_iload_n (pc := 16) dX10_sister_16 rfl ?_
    refine J_iconst (pc := 17) (v := 0) dX10_sister_17 (by decide) ?_
    refine J_iconst (pc := 18) (v := 4) dX10_sister_18 (by decide) ?_
    refine J_csr (pc := 19) (N := mX10_isWithin) dX10_sister_19 ml_X10_177 cf_X10_isWithin cs_X10_isWithin r_X10_isWithin rfl rfl (Nat.le_of_ble_eq_true rfl) (by decide) ?_
    refine J_t1 (bI_t (by decide)) ?_
    refine J_cvv (pc := 22) (N := mX10_needArgument) dX10_sister_22 ml_X10_181 cf_X10_needArgument cv_X10_needArgument r_X10_needArgument_ok rfl rfl (Nat.le_of_ble_eq_true rfl) (by decide) (rv_of (ci := 10) rfl rfl rfl) ?_
    refine J_iload_n (pc := 25) dX10_sister_25 rfl ?_
    refine J_tableIn (pc := 26) (off := 56) (tgt := 82) dX10_sister_26 (by decide) (by decide) (by decide) (by decide) ?_
    refine J_aload_n (pc := 82) dX10_sister_82 rfl ?_
    refine J_getr (pc := 83) dX10_sister_83 kc10 fl_X10_27 rfl ?_
    refine J_getpN (pc := 86) dX10_sister_86 kc0 fl_X10_54 (by first | exact cvn_p2 (by assumption) | rfl) ?_
    refine J_tr hp2 ?_
    refine J_getrN (pc := 89) dX10_sister_89 kc1 fl_X10_205 (by first | exact hou_r1 (by assumption) | rfl) ?_
    refine J_iload_n (pc := 92) dX10_sister_92 rfl ?_
    refine J_il (pc := 93) dX10_sister_93 (by first | exact hou_a1 (by assumption) | rfl) (by first | with_reducible rfl | assumption | exact ix_nI _ | rfl) ⟨by first | decide | omega, by decide⟩ ?_
    exact J_iret (pc := 94) rfl rfl rfl dX10_sister_94 (rq hQ (hHC.2.2.2.1 _ hs').2.1 rfl)
  · refine J_aload_n (pc := 0) dX10_sister_0 rfl ?_
    refine J_aload_n (pc := 1) dX10_sister_1 rfl ?_
    refine J_getr (pc := 2) dX10_sister_2 kc10 fl_X10_27 rfl ?_
    refine J_getpN (pc := 5) dX10_sister_5 kc0 fl_X10_54 (by first | exact cvn_p2 (by assumption) | rfl) ?_
    refine J_tr hp2 ?_
    refine J_iload_n (pc := 8) dX10_sister_8 rfl ?_
    refine J_cnr (pc := 9) (N := mX1_hasSister) dX10_sister_9 ml_X10_195 cf_X1_hasSister cv_X1_hasSister (r_X1_hasSister hHL hHC hv) rfl rfl (Nat.le_of_ble_eq_true rfl) (by decide) (rv_of (ci := 1) (by first | exact hou_n (by assumption) | rfl) rfl rfl) ?_
    refine J_t1 (bI_t (in_nI hs' (by omega))) ?_
    refine J_cvv (pc := 12) (N := mX10_needElement) dX10_sister_12 ml_X10_199 cf_X10_needElement cv_X10_needElement r_X10_needElement_ok rfl rfl (Nat.le_of_ble_eq_true rfl) (by decide) (rv_of (ci := 10) rfl rfl rfl) ?_
    refine J_aload_n (pc := 15) dX10_sister_15 rfl ?_
    refine J_iload_n (pc := 16) dX10_sister_16 rfl ?_
    refine J_iconst (pc := 17) (v := 0) dX10_sister_17 (by decide) ?_
    refine J_iconst (pc := 18) (v := 4) dX10_sister_18 (by decide) ?_
    refine J_csr (pc := 19) (N := mX10_isWithin) dX10_sister_19 ml_X10_177 cf_X10_isWithin cs_X10_isWithin r_X10_isWithin rfl rfl (Nat.le_of_ble_eq_true rfl) (by decide) ?_
    refine J_t1 (bI_t (by decide)) ?_
    refine J_cvv (pc := 22) (N := mX10_needArgument) dX10_sister_22 ml_X10_181 cf_X10_needArgument cv_X10_needArgument r_X10_needArgument_ok rfl rfl (Nat.le_of_ble_eq_true rfl) (by decide) (rv_of (ci := 10) rfl rfl rfl) ?_
    refine J_iload_n (pc := 25) dX10_sister_25 rfl ?_
    refine J_tableIn (pc := 26) (off := 69) (tgt := 95) dX10_sister_26 (by decide) (by decide) (by decide) (by decide) ?_
    refine J_aload_n (pc := 95) dX10_sister_95 rfl ?_
    refine J_getr (pc := 96) dX10_sister_96 kc10 fl_X10_27 rfl ?_
    refine J_iload_n (pc := 99) dX10_sister_99 rfl ?_
    refine J_cnr (pc := 100) (N := mX0_keptOf) dX10_sister_100 ml_X10_208 cf_X0_keptOf cv_X0_keptOf (r_X0_keptOf hX hs') rfl rfl (Nat.le_of_ble_eq_true rfl) (by decide) (rv_of (ci := 0) (by first | exact cvn_n (by assumption) | rfl) rfl rfl) ?_
    exact J_iret (pc := 103) rfl rfl rfl dX10_sister_103 (rq hQ rfl rfl)
  · refine J_aload_n (pc := 0) dX10_sister_0 rfl ?_
    refine J_aload_n (pc := 1) dX10_sister_1 rfl ?_
    refine J_getr (pc := 2) dX10_sister_2 kc10 fl_X10_27 rfl ?_
    refine J_getpN (pc := 5) dX10_sister_5 kc0 fl_X10_54 (by first | exact cvn_p2 (by assumption) | rfl) ?_
    refine J_tr hp2 ?_
    refine J_iload_n (pc := 8) dX10_sister_8 rfl ?_
    refine J_cnr (pc := 9) (N := mX1_hasSister) dX10_sister_9 ml_X10_195 cf_X1_hasSister cv_X1_hasSister (r_X1_hasSister hHL hHC hv) rfl rfl (Nat.le_of_ble_eq_true rfl) (by decide) (rv_of (ci := 1) (by first | exact hou_n (by assumption) | rfl) rfl rfl) ?_
    refine J_t1 (bI_t (in_nI hs' (by omega))) ?_
    refine J_cvv (pc := 12) (N := mX10_needElement) dX10_sister_12 ml_X10_199 cf_X10_needElement cv_X10_needElement r_X10_needElement_ok rfl rfl (Nat.le_of_ble_eq_true rfl) (by decide) (rv_of (ci := 10) rfl rfl rfl) ?_
    refine J_aload_n (pc := 15) dX10_sister_15 rfl ?_
    refine J_iload_n (pc := 16) dX10_sister_16 rfl ?_
    refine J_iconst (pc := 17) (v := 0) dX10_sister_17 (by decide) ?_
    refine J_iconst (pc := 18) (v := 4) dX10_sister_18 (by decide) ?_
    refine J_csr (pc := 19) (N := mX10_isWithin) dX10_sister_19 ml_X10_177 cf_X10_isWithin cs_X10_isWithin r_X10_isWithin rfl rfl (Nat.le_of_ble_eq_true rfl) (by decide) ?_
    refine J_t1 (bI_t (by decide)) ?_
    refine J_cvv (pc := 22) (N := mX10_needArgument) dX10_sister_22 ml_X10_181 cf_X10_needArgument cv_X10_needArgument r_X10_needArgument_ok rfl rfl (Nat.le_of_ble_eq_true rfl) (by decide) (rv_of (ci := 10) rfl rfl rfl) ?_
    refine J_iload_n (pc := 25) dX10_sister_25 rfl ?_
    refine J_tableOut (pc := 26) (tgt := 104) dX10_sister_26 (by decide) (by decide) ?_
    refine J_aload_n (pc := 104) dX10_sister_104 rfl ?_
    refine J_getr (pc := 105) dX10_sister_105 kc10 fl_X10_27 rfl ?_
    refine J_getpN (pc := 108) dX10_sister_108 kc0 fl_X10_54 (by first | exact cvn_p2 (by assumption) | rfl) ?_
    refine J_tr hp2 ?_
    refine J_getrN (pc := 111) dX10_sister_111 kc1 fl_X10_212 (by first | exact hou_r2 (by assumption) | rfl) ?_
    refine J_iload_n (pc := 114) dX10_sister_114 rfl ?_
    refine J_il (pc := 115) dX10_sister_115 (by first | exact hou_a2 (by assumption) | rfl) (by first | with_reducible rfl | assumption | exact ix_nI _ | rfl) ⟨by first | decide | omega, by decide⟩ ?_
    exact J_iret (pc := 116) rfl rfl rfl dX10_sister_116 (rq hQ (hHC.2.2.2.1 _ hs').2.2 rfl)
theorem r_X10_openPilgrimsOf {g : Gp} {S : Sx} {a b m : Nat} {d : HD} {wv : Nat → Nat × Nat} {f : Row} (hX : CX S 3 16 17 a b d m wv f) {r : Nat} (hr : r < dNr d) : RW g mX10_openPilgrimsOf 6 [.ref 0, .int (nI r)] S (some (.int (msk (fun p => decide (f (36 + p) = -1) && cnB d m wv f r p 0) (dNp d)))) S := by
  refine RW_ofQ ⟨rfl, rfl⟩ (Nat.le_of_ble_eq_true rfl) (fun T sz Q hQ => ?_)
  obtain ⟨hCL, hHL, hLL, hp2, hp3, hHC, hv, hW, hLC, hRC⟩ := id hX
  have n1 : dNs d ≤ 8 := hv.1
  have n2 : dNr d ≤ 10 := hv.2.1
  have n3 : dNp d ≤ 8 := hv.2.2.1
  refine J_iconst (pc := 0) (v := 0) dX10_openPilgrimsOf_0 (by decide) ?_
  refine J_istore_n (pc := 1) dX10_openPilgrimsOf_1 (by decide) rfl ?_
  refine J_iconst (pc := 2) (v := 0) dX10_openPilgrimsOf_2 (by decide) ?_
  refine J_istore_n (pc := 3) dX10_openPilgrimsOf_3 (by decide) rfl ?_
  show J g mX10_openPilgrimsOf 6 [] 4 [some (.ref 0), some (.int (nI r)), some (.int 0), some (.int 0)] [] (hs (w1 S T)) sz 0 0 Q
  refine dn_ind (n := dNp d) (P := fun i => ∀ T, J g mX10_openPilgrimsOf 6 [] 4 [some (.ref 0), some (.int (nI r)), some (.int (msk (fun p => decide (f (36 + p) = -1) && cnB d m wv f r p 0) i)), some (.int (ix i))] [] (hs (w1 S T)) sz 0 0 Q) ?_ (fun i hi ih => ?_) 0 (Nat.zero_le _) _
  · intro T
    refine J_iload_n (pc := 4) dX10_openPilgrimsOf_4 rfl ?_
    refine J_aload_n (pc := 5) dX10_openPilgrimsOf_5 rfl ?_
    refine J_getr (pc := 6) dX10_openPilgrimsOf_6 kc10 fl_X10_27 rfl ?_
    refine J_getpN (pc := 9) dX10_openPilgrimsOf_9 kc0 fl_X10_54 (by first | exact cvn_p2 (by assumption) | rfl) ?_
    refine J_tr hp2 ?_
    refine J_getiN (pc := 12) dX10_openPilgrimsOf_12 kc1 fl_X10_188 (by first | exact hou_i10 (by assumption) | rfl) ?_
    refine J_icmp_ge (pc := 15) (tgt := 54) dX10_openPilgrimsOf_15 (by decide) (fun c15 => ?_) (fun c15 => absurd (ix_ge hHC.2.2.1) c15)
    refine J_iload_n (pc := 54) dX10_openPilgrimsOf_54 rfl ?_
    exact J_iret (pc := 55) rfl rfl rfl dX10_openPilgrimsOf_55 (rqw hQ rfl rfl)
  · intro T
    refine J_iload_n (pc := 4) dX10_openPilgrimsOf_4 rfl ?_
    refine J_aload_n (pc := 5) dX10_openPilgrimsOf_5 rfl ?_
    refine J_getr (pc := 6) dX10_openPilgrimsOf_6 kc10 fl_X10_27 rfl ?_
    refine J_getpN (pc := 9) dX10_openPilgrimsOf_9 kc0 fl_X10_54 (by first | exact cvn_p2 (by assumption) | rfl) ?_
    refine J_tr hp2 ?_
    refine J_getiN (pc := 12) dX10_openPilgrimsOf_12 kc1 fl_X10_188 (by first | exact hou_i10 (by assumption) | rfl) ?_
    refine J_icmp_ge (pc := 15) (tgt := 54) dX10_openPilgrimsOf_15 (by decide) (fun c15 => absurd c15 (ix_lt hHC.2.2.1 hi (by omega))) (fun c15 => ?_)
    refine J_aload_n (pc := 18) dX10_openPilgrimsOf_18 rfl ?_
    refine J_getr (pc := 19) dX10_openPilgrimsOf_19 kc10 fl_X10_27 rfl ?_
    refine J_iload_n (pc := 22) dX10_openPilgrimsOf_22 rfl ?_
    refine J_t1 (ix_nI i) ?_
    refine J_cnr (pc := 23) (N := mX0_isCured) dX10_openPilgrimsOf_23 ml_X10_256 cf_X0_isCured cv_X0_isCured (r_X0_isCured (S := w1 S T) hX hi) rfl rfl (Nat.le_of_ble_eq_true rfl) (by decide) (rv_of (ci := 0) (by first | exact cvn_n (by assumption) | rfl) rfl rfl) ?_
    refine J_ifp_ne (pc := 26) (tgt := 48) dX10_openPilgrimsOf_26 (by decide) (fun c26 => ?_) (fun c26 => ?_)
    · rw [msk_f0 (p := (fun p => decide (f (36 + p) = -1) && cnB d m wv f r p 0)) (n := i) (fun q => c26 (of_decide_eq_true (Bool.and_eq_true_iff.mp q).1))]
      refine J_iinc (pc := 48) (v := 1) dX10_openPilgrimsOf_48 rfl (by decide) rfl ?_
      refine J_goto (pc := 51) (tgt := 4) dX10_openPilgrimsOf_51 (by decide) ?_
      exact ih T
    · refine J_aload_n (pc := 29) dX10_openPilgrimsOf_29 rfl ?_
      refine J_getr (pc := 30) dX10_openPilgrimsOf_30 kc10 fl_X10_27 rfl ?_
      refine J_iload_n (pc := 33) dX10_openPilgrimsOf_33 rfl ?_
      refine J_iload_n (pc := 34) dX10_openPilgrimsOf_34 rfl ?_
      refine J_t1 (ix_nI i) ?_
      refine J_iconst (pc := 35) (v := 0) dX10_openPilgrimsOf_35 (by decide) ?_
      refine J_cnw (pc := 36) (N := mX0_canIn) dX10_openPilgrimsOf_36 ml_X10_262 cf_X0_canIn cv_X0_canIn (r_X0_canIn hX hr hi) rfl rfl (Nat.le_of_ble_eq_true rfl) (by decide) (rv_of (ci := 0) (by first | exact cvn_n (by assumption) | rfl) rfl rfl) ?_
      intro T
      refine J_ifp_eq (pc := 39) (tgt := 48) dX10_openPilgrimsOf_39 (by decide) (fun c39 => ?_) (fun c39 => ?_)
      · rw [msk_f0 (p := (fun p => decide (f (36 + p) = -1) && cnB d m wv f r p 0)) (n := i) (fun q => c39 (Bool.and_eq_true_iff.mp q).2)]
        refine J_iinc (pc := 48) (v := 1) dX10_openPilgrimsOf_48 rfl (by decide) rfl ?_
        refine J_goto (pc := 51) (tgt := 4) dX10_openPilgrimsOf_51 (by decide) ?_
        exact ih T
      · refine J_iload_n (pc := 42) dX10_openPilgrimsOf_42 rfl ?_
        refine J_iconst (pc := 43) (v := 1) dX10_openPilgrimsOf_43 (by decide) ?_
        refine J_iload_n (pc := 44) dX10_openPilgrimsOf_44 rfl ?_
        refine J_ishl (pc := 45) dX10_openPilgrimsOf_45 ?_
        refine J_ior (pc := 46) dX10_openPilgrimsOf_46 ?_
        refine J_t1 (msk_t (p := (fun p => decide (f (36 + p) = -1) && cnB d m wv f r p 0)) (n := i) (by simp only [Bool.and_eq_true, decide_eq_true_eq]; exact ⟨Decidable.not_not.mp c26, c39⟩)) ?_
        refine J_istore_n (pc := 47) dX10_openPilgrimsOf_47 (by decide) rfl ?_
        refine J_iinc (pc := 48) (v := 1) dX10_openPilgrimsOf_48 rfl (by decide) rfl ?_
        refine J_goto (pc := 51) (tgt := 4) dX10_openPilgrimsOf_51 (by decide) ?_
        exact ih T
def rlC (d : HD) (m : Nat) (wv : Nat → Nat × Nat) (f : Row) (r w : Nat) : Int32 := match w with
  | 0 => nI (dOw d r)
  | 1 => nI (dIl d r)
  | 2 => nI (dWo d r)
  | 3 => f (16 + r)
  | 4 => pwN d m wv f r
  | _ => msk (fun p => decide (f (36 + p) = -1) && cnB d m wv f r p 0) (dNp d)
theorem r_X10_relic {g : Gp} {S : Sx} {a b m : Nat} {d : HD} {wv : Nat → Nat × Nat} {f : Row} (hX : CX S 3 16 17 a b d m wv f) {r w : Nat} (hr : r < dNr d) (hw : w ≤ 5) : RW g mX10_relic 7 [.ref 0, .int (nI r), .int (nI w)] S (some (.int (rlC d m wv f r w))) S := by
  refine RW_ofQ ⟨rfl, rfl⟩ (Nat.le_of_ble_eq_true rfl) (fun T sz Q hQ => ?_)
  obtain ⟨hCL, hHL, hLL, hp2, hp3, hHC, hv, hW, hLC, hRC⟩ := id hX
  have n1 : dNs d ≤ 8 := hv.1
  have n2 : dNr d ≤ 10 := hv.2.1
  have n3 : dNp d ≤ 8 := hv.2.2.1
  obtain rfl | rfl | rfl | rfl | rfl | rfl : w = 0 ∨ w = 1 ∨ w = 2 ∨ w = 3 ∨ w = 4 ∨ w = 5 := by omega
  · refine J_aload_n (pc := 0) dX10_relic_0 rfl ?_
    refine J_aload_n (pc := 1) dX10_relic_1 rfl ?_
    refine J_getr (pc := 2) dX10_relic_2 kc10 fl_X10_27 rfl ?_
    refine J_getpN (pc := 5) dX10_relic_5 kc0 fl_X10_54 (by first | exact cvn_p2 (by assumption) | rfl) ?_
    refine J_tr hp2 ?_
    refine J_iload_n (pc := 8) dX10_relic_8 rfl ?_
    refine J_cnr (pc := 9) (N := mX1_hasRelic) dX10_relic_9 ml_X10_215 cf_X1_hasRelic cv_X1_hasRelic (r_X1_hasRelic (S := w1 S T) hHL hHC hv) rfl rfl (Nat.le_of_ble_eq_true rfl) (by decide) (rv_of (ci := 1) (by first | exact hou_n (by assumption) | rfl) rfl rfl) ?_
    refine J_t1 (bI_t (in_nI hr (by omega))) ?_
    refine J_cvv (pc := 12) (N := mX10_needElement) dX10_relic_12 ml_X10_199 cf_X10_needElement cv_X10_needElement r_X10_needElement_ok rfl rfl (Nat.le_of_ble_eq_true rfl) (by decide) (rv_of (ci := 10) rfl rfl rfl) ?_
    refine J_aload_n (pc := 15) dX10_relic_15 rfl ?_
    refine J_iload_n (pc := 16) dX10_relic_16 rfl ?_
    refine J_iconst (pc := 17) (v := 0) dX10_relic_17 (by decide) ?_
    refine J_iconst (pc := 18) (v := 5) dX10_relic_18 (by decide) ?_
    refine J_csr (pc := 19) (N := mX10_isWithin) dX10_relic_19 ml_X10_177 cf_X10_isWithin cs_X10_isWithin r_X10_isWithin rfl rfl (Nat.le_of_ble_eq_true rfl) (by decide) ?_
    refine J_t1 (bI_t (by decide)) ?_
    refine J_cvv (pc := 22) (N := mX10_needArgument) dX10_relic_22 ml_X10_181 cf_X10_needArgument cv_X10_needArgument r_X10_needArgument_ok rfl rfl (Nat.le_of_ble_eq_true rfl) (by decide) (rv_of (ci := 10) rfl rfl rfl) ?_
    refine J_iload_n (pc := 25) dX10_relic_25 rfl ?_
    refine J_tableIn (pc := 26) (off := 34) (tgt := 60) dX10_relic_26 (by decide) (by decide) (by decide) (by decide) ?_
    refine J_aload_n (pc := 60) dX10_relic_60 rfl ?_
    refine J_getr (pc := 61) dX10_relic_61 kc10 fl_X10_27 rfl ?_
    refine J_getpN (pc := 64) dX10_relic_64 kc0 fl_X10_54 (by first | exact cvn_p2 (by assumption) | rfl) ?_
    refine J_tr hp2 ?_
    refine J_getrN (pc := 67) dX10_relic_67 kc1 fl_X10_218 (by first | exact hou_r3 (by assumption) | rfl) ?_
    refine J_iload_n (pc := 70) dX10_relic_70 rfl ?_
    refine J_il (pc := 71) dX10_relic_71 (by first | exact hou_a3 (by assumption) | rfl) (by first | with_reducible rfl | assumption | exact ix_nI _ | rfl) ⟨by first | decide | omega, by decide⟩ ?_
    exact J_iret (pc := 72) rfl rfl rfl dX10_relic_72 (rqw hQ (hHC.2.2.2.2.1 _ hr).1 rfl)
  · refine J_aload_n (pc := 0) dX10_relic_0 rfl ?_
    refine J_aload_n (pc := 1) dX10_relic_1 rfl ?_
    refine J_getr (pc := 2) dX10_relic_2 kc10 fl_X10_27 rfl ?_
    refine J_getpN (pc := 5) dX10_relic_5 kc0 fl_X10_54 (by first | exact cvn_p2 (by assumption) | rfl) ?_
    refine J_tr hp2 ?_
    refine J_iload_n (pc := 8) dX10_relic_8 rfl ?_
    refine J_cnr (pc := 9) (N := mX1_hasRelic) dX10_relic_9 ml_X10_215 cf_X1_hasRelic cv_X1_hasRelic (r_X1_hasRelic (S := w1 S T) hHL hHC hv) rfl rfl (Nat.le_of_ble_eq_true rfl) (by decide) (rv_of (ci := 1) (by first | exact hou_n (by assumption) | rfl) rfl rfl) ?_
    refine J_t1 (bI_t (in_nI hr (by omega))) ?_
    refine J_cvv (pc := 12) (N := mX10_needElement) dX10_relic_12 ml_X10_199 cf_X10_needElement cv_X10_needElement r_X10_needElement_ok rfl rfl (Nat.le_of_ble_eq_true rfl) (by decide) (rv_of (ci := 10) rfl rfl rfl) ?_
    refine J_aload_n (pc := 15) dX10_relic_15 rfl ?_
    refine J_iload_n (pc := 16) dX10_relic_16 rfl ?_
    refine J_iconst (pc := 17) (v := 0) dX10_relic_17 (by decide) ?_
    refine J_iconst (pc := 18) (v := 5) dX10_relic_18 (by decide) ?_
    refine J_csr (pc := 19) (N := mX10_isWithin) dX10_relic_19 ml_X10_177 cf_X10_isWithin cs_X10_isWithin r_X10_isWithin rfl rfl (Nat.le_of_ble_eq_true rfl) (by decide) ?_
    refine J_t1 (bI_t (by decide)) ?_
    refine J_cvv (pc := 22) (N := mX10_needArgument) dX10_relic_22 ml_X10_181 cf_X10_needArgument cv_X10_needArgument r_X10_needArgument_ok rfl rfl (Nat.le_of_ble_eq_true rfl) (by decide) (rv_of (ci := 10) rfl rfl rfl) ?_
    refine J_iload_n (pc := 25) dX10_relic_25 rfl ?_
    refine J_tableIn (pc := 26) (off := 47) (tgt := 73) dX10_relic_26 (by decide) (by decide) (by decide) (by decide) ?_
    refine J_aload_n (pc := 73) dX10_relic_73 rfl ?_
    refine J_getr (pc := 74) dX10_relic_74 kc10 fl_X10_27 rfl ?_
    refine J_getpN (pc := 77) dX10_relic_77 kc0 fl_X10_54 (by first | exact cvn_p2 (by assumption) | rfl) ?_
    refine J_tr hp2 ?_
    refine J_getrN (pc := 80) dX10_relic_80 kc1 fl_X10_221 (by first | exact hou_r4 (by assumption) | rfl) ?_
    refine J_iload_n (pc := 83) dX10_relic_83 rfl ?_
    refine J_il (pc := 84) dX10_relic_84 (by first | exact hou_a4 (by assumption) | rfl) (by first | with_reducible rfl | assumption | exact ix_nI _ | rfl) ⟨by first | decide | omega, by decide⟩ ?_
    exact J_iret (pc := 85) rfl rfl rfl dX10_relic_85 (rqw hQ (hHC.2.2.2.2.1 _ hr).2.1 rfl)
  · refine J_aload_n (pc := 0) dX10_relic_0 rfl ?_
    refine J_aload_n (pc := 1) dX10_relic_1 rfl ?_
    refine J_getr (pc := 2) dX10_relic_2 kc10 fl_X10_27 rfl ?_
    refine J_getpN (pc := 5) dX10_relic_5 kc0 fl_X10_54 (by first | exact cvn_p2 (by assumption) | rfl) ?_
    refine J_tr hp2 ?_
    refine J_iload_n (pc := 8) dX10_relic_8 rfl ?_
    refine J_cnr (pc := 9) (N := mX1_hasRelic) dX10_relic_9 ml_X10_215 cf_X1_hasRelic cv_X1_hasRelic (r_X1_hasRelic (S := w1 S T) hHL hHC hv) rfl rfl (Nat.le_of_ble_eq_true rfl) (by decide) (rv_of (ci := 1) (by first | exact hou_n (by assumption) | rfl) rfl rfl) ?_
    refine J_t1 (bI_t (in_nI hr (by omega))) ?_
    refine J_cvv (pc := 12) (N := mX10_needElement) dX10_relic_12 ml_X10_199 cf_X10_needElement cv_X10_needElement r_X10_needElement_ok rfl rfl (Nat.le_of_ble_eq_true rfl) (by decide) (rv_of (ci := 10) rfl rfl rfl) ?_
    refine J_aload_n (pc := 15) dX10_relic_15 rfl ?_
    refine J_iload_n (pc := 16) dX10_relic_16 rfl ?_
    refine J_iconst (pc := 17) (v := 0) dX10_relic_17 (by decide) ?_
    refine J_iconst (pc := 18) (v := 5) dX10_relic_18 (by decide) ?_
    refine J_csr (pc := 19) (N := mX10_isWithin) dX10_relic_19 ml_X10_177 cf_X10_isWithin cs_X10_isWithin r_X10_isWithin rfl rfl (Nat.le_of_ble_eq_true rfl) (by decide) ?_
    refine J_t1 (bI_t (by decide)) ?_
    refine J_cvv (pc := 22) (N := mX10_needArgument) dX10_relic_22 ml_X10_181 cf_X10_needArgument cv_X10_needArgument r_X10_needArgument_ok rfl rfl (Nat.le_of_ble_eq_true rfl) (by decide) (rv_of (ci := 10) rfl rfl rfl) ?_
    refine J_iload_n (pc := 25) dX10_relic_25 rfl ?_
    refine J_tableIn (pc := 26) (off := 60) (tgt := 86) dX10_relic_26 (by decide) (by decide) (by decide) (by decide) ?_
    refine J_aload_n (pc := 86) dX10_relic_86 rfl ?_
    refine J_getr (pc := 87) dX10_relic_87 kc10 fl_X10_27 rfl ?_
    refine J_getpN (pc := 90) dX10_relic_90 kc0 fl_X10_54 (by first | exact cvn_p2 (by assumption) | rfl) ?_
    refine J_tr hp2 ?_
    refine J_getrN (pc := 93) dX10_relic_93 kc1 fl_X10_224 (by first | exact hou_r5 (by assumption) | rfl) ?_
    refine J_iload_n (pc := 96) dX10_relic_96 rfl ?_
    refine J_il (pc := 97) dX10_relic_97 (by first | exact hou_a5 (by assumption) | rfl) (by first | with_reducible rfl | assumption | exact ix_nI _ | rfl) ⟨by first | decide | omega, by decide⟩ ?_
    exact J_iret (pc := 98) rfl rfl rfl dX10_relic_98 (rqw hQ (hHC.2.2.2.2.1 _ hr).2.2 rfl)
  · refine J_aload_n (pc := 0) dX10_relic_0 rfl ?_
    refine J_aload_n (pc := 1) dX10_relic_1 rfl ?_
    refine J_getr (pc := 2) dX10_relic_2 kc10 fl_X10_27 rfl ?_
    refine J_getpN (pc := 5) dX10_relic_5 kc0 fl_X10_54 (by first | exact cvn_p2 (by assumption) | rfl) ?_
    refine J_tr hp2 ?_
    refine J_iload_n (pc := 8) dX10_relic_8 rfl ?_
    refine J_cnr (pc := 9) (N := mX1_hasRelic) dX10_relic_9 ml_X10_215 cf_X1_hasRelic cv_X1_hasRelic (r_X1_hasRelic (S := w1 S T) hHL hHC hv) rfl rfl (Nat.le_of_ble_eq_true rfl) (by decide) (rv_of (ci := 1) (by first | exact hou_n (by assumption) | rfl) rfl rfl) ?_
    refine J_t1 (bI_t (in_nI hr (by omega))) ?_
    refine J_cvv (pc := 12) (N := mX10_needElement) dX10_relic_12 ml_X10_199 cf_X10_needElement cv_X10_needElement r_X10_needElement_ok rfl rfl (Nat.le_of_ble_eq_true rfl) (by decide) (rv_of (ci := 10) rfl rfl rfl) ?_
    refine J_aload_n (pc := 15) dX10_relic_15 rfl ?_
    refine J_iload_n (pc := 16) dX10_relic_16 rfl ?_
    refine J_iconst (pc := 17) (v := 0) dX10_relic_17 (by decide) ?_
    refine J_iconst (pc := 18) (v := 5) dX10_relic_18 (by decide) ?_
    refine J_csr (pc := 19) (N := mX10_isWithin) dX10_relic_19 ml_X10_177 cf_X10_isWithin cs_X10_isWithin r_X10_isWithin rfl rfl (Nat.le_of_ble_eq_true rfl) (by decide) ?_
    refine J_t1 (bI_t (by decide)) ?_
    refine J_cvv (pc := 22) (N := mX10_needArgument) dX10_relic_22 ml_X10_181 cf_X10_needArgument cv_X10_needArgument r_X10_needArgument_ok rfl rfl (Nat.le_of_ble_eq_true rfl) (by decide) (rv_of (ci := 10) rfl rfl rfl) ?_
    refine J_iload_n (pc := 25) dX10_relic_25 rfl ?_
    refine J_tableIn (pc := 26) (off := 73) (tgt := 99) dX10_relic_26 (by decide) (by decide) (by decide) (by decide) ?_
    refine J_aload_n (pc := 99) dX10_relic_99 rfl ?_
    refine J_getr (pc := 100) dX10_relic_100 kc10 fl_X10_27 rfl ?_
    refine J_iload_n (pc := 103) dX10_relic_103 rfl ?_
    refine J_cnr (pc := 104) (N := mX0_isKept) dX10_relic_104 ml_X10_227 cf_X0_isKept cv_X0_isKept (r_X0_isKept (S := w1 S T) hX hr) rfl rfl (Nat.le_of_ble_eq_true rfl) (by decide) (rv_of (ci := 0) (by first | exact cvn_n (by assumption) | rfl) rfl rfl) ?_
    refine J_ifp_eq (pc := 107) (tgt := 124) dX10_relic_107 (by decide) (fun c107 => ?_) (fun c107 => ?_)
    · refine J_iconst (pc := 124) (v := -1) dX10_relic_124 (by decide) ?_
      exact J_iret (pc := 125) rfl rfl rfl dX10_relic_125 (rqw hQ (by first | exact hRC.2.2.2.2.2.1 _ hr c107 | exact (Decidable.not_not.mp c107).symm) rfl)
    · refine J_aload_n (pc := 110) dX10_relic_110 rfl ?_
      refine J_getr (pc := 111) dX10_relic_111 kc10 fl_X10_27 rfl ?_
      refine J_getrN (pc := 114) dX10_relic_114 kc0 fl_X10_146 (by first | exact cvn_r0 (by assumption) | rfl) ?_
      refine J_iconst (pc := 117) (v := 5) dX10_relic_117 (by decide) ?_
      refine J_iload_n (pc := 118) dX10_relic_118 rfl ?_
      refine J_iadd (pc := 119) dX10_relic_119 ?_
      refine J_il (pc := 120) dX10_relic_120 (by first | exact cvn_e (by assumption) | rfl) (by first | exact nI_add 5 _ | (rw [ix_nI]; exact nI_add 5 _)) ⟨by first | decide | omega, by decide⟩ ?_
      refine J_goto (pc := 121) (tgt := 125) dX10_relic_121 (by decide) ?_
      exact J_iret (pc := 125) rfl rfl rfl dX10_relic_125 (rqw hQ (by first | exact hRC.2.2.2.2.2.1 _ hr c107 | exact (Decidable.not_not.mp c107).symm) rfl)
  · refine J_aload_n (pc := 0) dX10_relic_0 rfl ?_
    refine J_aload_n (pc := 1) dX10_relic_1 rfl ?_
    refine J_getr (pc := 2) dX10_relic_2 kc10 fl_X10_27 rfl ?_
    refine J_getpN (pc := 5) dX10_relic_5 kc0 fl_X10_54 (by first | exact cvn_p2 (by assumption) | rfl) ?_
    refine J_tr hp2 ?_
    refine J_iload_n (pc := 8) dX10_relic_8 rfl ?_
    refine J_cnr (pc := 9) (N := mX1_hasRelic) dX10_relic_9 ml_X10_215 cf_X1_hasRelic cv_X1_hasRelic (r_X1_hasRelic (S := w1 S T) hHL hHC hv) rfl rfl (Nat.le_of_ble_eq_true rfl) (by decide) (rv_of (ci := 1) (by first | exact hou_n (by assumption) | rfl) rfl rfl) ?_
    refine J_t1 (bI_t (in_nI hr (by omega))) ?_
    refine J_cvv (pc := 12) (N := mX10_needElement) dX10_relic_12 ml_X10_199 cf_X10_needElement cv_X10_needElement r_X10_needElement_ok rfl rfl (Nat.le_of_ble_eq_true rfl) (by decide) (rv_of (ci := 10) rfl rfl rfl) ?_
    refine J_aload_n (pc := 15) dX10_relic_15 rfl ?_
    refine J_iload_n (pc := 16) dX10_relic_16 rfl ?_
    refine J_iconst (pc := 17) (v := 0) dX10_relic_17 (by decide) ?_
    refine J_iconst (pc := 18) (v := 5) dX10_relic_18 (by decide) ?_
    refine J_csr (pc := 19) (N := mX10_isWithin) dX10_relic_19 ml_X10_177 cf_X10_isWithin cs_X10_isWithin r_X10_isWithin rfl rfl (Nat.le_of_ble_eq_true rfl) (by decide) ?_
    refine J_t1 (bI_t (by decide)) ?_
    refine J_cvv (pc := 22) (N := mX10_needArgument) dX10_relic_22 ml_X10_181 cf_X10_needArgument cv_X10_needArgument r_X10_needArgument_ok rfl rfl (Nat.le_of_ble_eq_true rfl) (by decide) (rv_of (ci := 10) rfl rfl rfl) ?_
    refine J_iload_n (pc := 25) dX10_relic_25 rfl ?_
    refine J_tableIn (pc := 26) (off := 100) (tgt := 126) dX10_relic_26 (by decide) (by decide) (by decide) (by decide) ?_
    refine J_aload_n (pc := 126) dX10_relic_126 rfl ?_
    refine J_getr (pc := 127) dX10_relic_127 kc10 fl_X10_27 rfl ?_
    refine J_iload_n (pc := 130) dX10_relic_130 rfl ?_
    refine J_cnw (pc := 131) (N := mX0_powerOf) dX10_relic_131 ml_X10_230 cf_X0_powerOf cv_X0_powerOf (r_X0_powerOf hX hr) rfl rfl (Nat.le_of_ble_eq_true rfl) (by decide) (rv_of (ci := 0) (by first | exact cvn_n (by assumption) | rfl) rfl rfl) ?_
    intro T
    exact J_iret (pc := 134) rfl rfl rfl dX10_relic_134 (rqw hQ rfl rfl)
  · refine J_aload_n (pc := 0) dX10_relic_0 rfl ?_
    refine J_aload_n (pc := 1) dX10_relic_1 rfl ?_
    refine J_getr (pc := 2) dX10_relic_2 kc10 fl_X10_27 rfl ?_
    refine J_getpN (pc := 5) dX10_relic_5 kc0 fl_X10_54 (by first | exact cvn_p2 (by assumption) | rfl) ?_
    refine J_tr hp2 ?_
    refine J_iload_n (pc := 8) dX10_relic_8 rfl ?_
    refine J_cnr (pc := 9) (N := mX1_hasRelic) dX10_relic_9 ml_X10_215 cf_X1_hasRelic cv_X1_hasRelic (r_X1_hasRelic (S := w1 S T) hHL hHC hv) rfl rfl (Nat.le_of_ble_eq_true rfl) (by decide) (rv_of (ci := 1) (by first | exact hou_n (by assumption) | rfl) rfl rfl) ?_
    refine J_t1 (bI_t (in_nI hr (by omega))) ?_
    refine J_cvv (pc := 12) (N := mX10_needElement) dX10_relic_12 ml_X10_199 cf_X10_needElement cv_X10_needElement r_X10_needElement_ok rfl rfl (Nat.le_of_ble_eq_true rfl) (by decide) (rv_of (ci := 10) rfl rfl rfl) ?_
    refine J_aload_n (pc := 15) dX10_relic_15 rfl ?_
    refine J_iload_n (pc := 16) dX10_relic_16 rfl ?_
    refine J_iconst (pc := 17) (v := 0) dX10_relic_17 (by decide) ?_
    refine J_iconst (pc := 18) (v := 5) dX10_relic_18 (by decide) ?_
    refine J_csr (pc := 19) (N := mX10_isWithin) dX10_relic_19 ml_X10_177 cf_X10_isWithin cs_X10_isWithin r_X10_isWithin rfl rfl (Nat.le_of_ble_eq_true rfl) (by decide) ?_
    refine J_t1 (bI_t (by decide)) ?_
    refine J_cvv (pc := 22) (N := mX10_needArgument) dX10_relic_22 ml_X10_181 cf_X10_needArgument cv_X10_needArgument r_X10_needArgument_ok rfl rfl (Nat.le_of_ble_eq_true rfl) (by decide) (rv_of (ci := 10) rfl rfl rfl) ?_
    refine J_iload_n (pc := 25) dX10_relic_25 rfl ?_
    refine J_tableOut (pc := 26) (tgt := 135) dX10_relic_26 (by decide) (by decide) ?_
    refine J_aload_n (pc := 135) dX10_relic_135 rfl ?_
    refine J_iload_n (pc := 136) dX10_relic_136 rfl ?_
    refine J_cvw (pc := 137) (N := mX10_openPilgrimsOf) dX10_relic_137 ml_X10_233 cf_X10_openPilgrimsOf cv_X10_openPilgrimsOf (r_X10_openPilgrimsOf hX hr) rfl rfl (Nat.le_of_ble_eq_true rfl) (by decide) (rv_of (ci := 10) rfl rfl rfl) ?_
    intro T
    exact J_iret (pc := 140) rfl rfl rfl dX10_relic_140 (rqw hQ rfl rfl)
def plC (d : HD) (m : Nat) (wv : Nat → Nat × Nat) (f : Row) (p w : Nat) : Int32 := match w with
  | 0 => nI (dPi d p)
  | 1 => nI (dPn d p)
  | 2 => f (36 + p)
  | _ => msk (fun r => cnB d m wv f r p 0) (dNr d)
theorem r_X10_pilgrim {g : Gp} {S : Sx} {a b m : Nat} {d : HD} {wv : Nat → Nat × Nat} {f : Row} (hX : CX S 3 16 17 a b d m wv f) {p w : Nat} (hp : p < dNp d) (hw : w ≤ 3) : RW g mX10_pilgrim 7 [.ref 0, .int (nI p), .int (nI w)] S (some (.int (plC d m wv f p w))) S := by
  refine RW_ofQ ⟨rfl, rfl⟩ (Nat.le_of_ble_eq_true rfl) (fun T sz Q hQ => ?_)
  obtain ⟨hCL, hHL, hLL, hp2, hp3, hHC, hv, hW, hLC, hRC⟩ := id hX
  have n1 : dNs d ≤ 8 := hv.1
  have n2 : dNr d ≤ 10 := hv.2.1
  have n3 : dNp d ≤ 8 := hv.2.2.1
  obtain rfl | rfl | rfl | rfl : w = 0 ∨ w = 1 ∨ w = 2 ∨ w = 3 := by omega
  · refine J_aload_n (pc := 0) dX10_pilgrim_0 rfl ?_
    refine J_aload_n (pc := 1) dX10_pilgrim_1 rfl ?_
    refine J_getr (pc := 2) dX10_pilgrim_2 kc10 fl_X10_27 rfl ?_
    refine J_getpN (pc := 5) dX10_pilgrim_5 kc0 fl_X10_54 (by first | exact cvn_p2 (by assumption) | rfl) ?_
    refine J_tr hp2 ?_
    refine J_iload_n (pc := 8) dX10_pilgrim_8 rfl ?_
    refine J_cnr (pc := 9) (N := mX1_hasPilgrim) dX10_pilgrim_9 ml_X10_236 cf_X1_hasPilgrim cv_X1_hasPilgrim (r_X1_hasPilgrim (S := w1 S T) hHL hHC hv) rfl rfl (Nat.le_of_ble_eq_true rfl) (by decide) (rv_of (ci := 1) (by first | exact hou_n (by assumption) | rfl) rfl rfl) ?_
    refine J_t1 (bI_t (in_nI hp (by omega))) ?_
    refine J_cvv (pc := 12) (N := mX10_needElement) dX10_pilgrim_12 ml_X10_199 cf_X10_needElement cv_X10_needElement r_X10_needElement_ok rfl rfl (Nat.le_of_ble_eq_true rfl) (by decide) (rv_of (ci := 10) rfl rfl rfl) ?_
    refine J_aload_n (pc := 15) dX10_pilgrim_15 rfl ?_
    refine J_iload_n (pc := 16) dX10_pilgrim_16 rfl ?_
    refine J_iconst (pc := 17) (v := 0) dX10_pilgrim_17 (by decide) ?_
    refine J_iconst (pc := 18) (v := 3) dX10_pilgrim_18 (by decide) ?_
    refine J_csr (pc := 19) (N := mX10_isWithin) dX10_pilgrim_19 ml_X10_177 cf_X10_isWithin cs_X10_isWithin r_X10_isWithin rfl rfl (Nat.le_of_ble_eq_true rfl) (by decide) ?_
    refine J_t1 (bI_t (by decide)) ?_
    refine J_cvv (pc := 22) (N := mX10_needArgument) dX10_pilgrim_22 ml_X10_181 cf_X10_needArgument cv_X10_needArgument r_X10_needArgument_ok rfl rfl (Nat.le_of_ble_eq_true rfl) (by decide) (rv_of (ci := 10) rfl rfl rfl) ?_
    refine J_iload_n (pc := 25) dX10_pilgrim_25 rfl ?_
    refine J_tableIn (pc := 26) (off := 26) (tgt := 52) dX10_pilgrim_26 (by decide) (by decide) (by decide) (by decide) ?_
    refine J_aload_n (pc := 52) dX10_pilgrim_52 rfl ?_
    refine J_getr (pc := 53) dX10_pilgrim_53 kc10 fl_X10_27 rfl ?_
    refine J_getpN (pc := 56) dX10_pilgrim_56 kc0 fl_X10_54 (by first | exact cvn_p2 (by assumption) | rfl) ?_
    refine J_tr hp2 ?_
    refine J_getrN (pc := 59) dX10_pilgrim_59 kc1 fl_X10_239 (by first | exact hou_r6 (by assumption) | rfl) ?_
    refine J_iload_n (pc := 62) dX10_pilgrim_62 rfl ?_
    refine J_il (pc := 63) dX10_pilgrim_63 (by first | exact hou_a6 (by assumption) | rfl) (by first | with_reducible rfl | assumption | exact ix_nI _ | rfl) ⟨by first | decide | omega, by decide⟩ ?_
    exact J_iret (pc := 64) rfl rfl rfl dX10_pilgrim_64 (rqw hQ (hHC.2.2.2.2.2 _ hp).1 rfl)
  · refine J_aload_n (pc := 0) dX10_pilgrim_0 rfl ?_
    refine J_aload_n (pc := 1) dX10_pilgrim_1 rfl ?_
    refine J_getr (pc := 2) dX10_pilgrim_2 kc10 fl_X10_27 rfl ?_
    refine J_getpN (pc := 5) dX10_pilgrim_5 kc0 fl_X10_54 (by first | exact cvn_p2 (by assumption) | rfl) ?_
    refine J_tr hp2 ?_
    refine J_iload_n (pc := 8) dX10_pilgrim_8 rfl ?_
    refine J_cnr (pc := 9) (N := mX1_hasPilgrim) dX10_pilgrim_9 ml_X10_236 cf_X1_hasPilgrim cv_X1_hasPilgrim (r_X1_hasPilgrim (S := w1 S T) hHL hHC hv) rfl rfl (Nat.le_of_ble_eq_true rfl) (by decide) (rv_of (ci := 1) (by first | exact hou_n (by assumption) | rfl) rfl rfl) ?_
    refine J_t1 (bI_t (in_nI hp (by omega))) ?_
    refine J_cvv (pc := 12) (N := mX10_needElement) dX10_pilgrim_12 ml_X10_199 cf_X10_needElement cv_X10_needElement r_X10_needElement_ok rfl rfl (Nat.le_of_ble_eq_true rfl) (by decide) (rv_of (ci := 10) rfl rfl rfl) ?_
    refine J_aload_n (pc := 15) dX10_pilgrim_15 rfl ?_
    refine J_iload_n (pc := 16) dX10_pilgrim_16 rfl ?_
    refine J_iconst (pc := 17) (v := 0) dX10_pilgrim_17 (by decide) ?_
    refine J_iconst (pc := 18) (v := 3) dX10_pilgrim_18 (by decide) ?_
    refine J_csr (pc := 19) (N := mX10_isWithin) dX10_pilgrim_19 ml_X10_177 cf_X10_isWithin cs_X10_isWithin r_X10_isWithin rfl rfl (Nat.le_of_ble_eq_true rfl) (by decide) ?_
    refine J_t1 (bI_t (by decide)) ?_
    refine J_cvv (pc := 22) (N := mX10_needArgument) dX10_pilgrim_22 ml_X10_181 cf_X10_needArgument cv_X10_needArgument r_X10_needArgument_ok rfl rfl (Nat.le_of_ble_eq_true rfl) (by decide) (rv_of (ci := 10) rfl rfl rfl) ?_
    refine J_iload_n (pc := 25) dX10_pilgrim_25 rfl ?_
    refine J_tableIn (pc := 26) (off := 39) (tgt := 65) dX10_pilgrim_26 (by decide) (by decide) (by decide) (by decide) ?_
    refine J_aload_n (pc := 65) dX10_pilgrim_65 rfl ?_
    refine J_getr (pc := 66) dX10_pilgrim_66 kc10 fl_X10_27 rfl ?_
    refine J_getpN (pc := 69) dX10_pilgrim_69 kc0 fl_X10_54 (by first | exact cvn_p2 (by assumption) | rfl) ?_
    refine J_tr hp2 ?_
    refine J_getrN (pc := 72) dX10_pilgrim_72 kc1 fl_X10_242 (by first | exact hou_r7 (by assumption) | rfl) ?_
    refine J_iload_n (pc := 75) dX10_pilgrim_75 rfl ?_
    refine J_il (pc := 76) dX10_pilgrim_76 (by first | exact hou_a7 (by assumption) | rfl) (by first | with_reducible rfl | assumption | exact ix_nI _ | rfl) ⟨by first | decide | omega, by decide⟩ ?_
    exact J_iret (pc := 77) rfl rfl rfl dX10_pilgrim_77 (rqw hQ (hHC.2.2.2.2.2 _ hp).2 rfl)
  · refine J_aload_n (pc := 0) dX10_pilgrim_0 rfl ?_
    refine J_aload_n (pc := 1) dX10_pilgrim_1 rfl ?_
    refine J_getr (pc := 2) dX10_pilgrim_2 kc10 fl_X10_27 rfl ?_
    refine J_getpN (pc := 5) dX10_pilgrim_5 kc0 fl_X10_54 (by first | exact cvn_p2 (by assumption) | rfl) ?_
    refine J_tr hp2 ?_
    refine J_iload_n (pc := 8) dX10_pilgrim_8 rfl ?_
    refine J_cnr (pc := 9) (N := mX1_hasPilgrim) dX10_pilgrim_9 ml_X10_236 cf_X1_hasPilgrim cv_X1_hasPilgrim (r_X1_hasPilgrim (S := w1 S T) hHL hHC hv) rfl rfl (Nat.le_of_ble_eq_true rfl) (by decide) (rv_of (ci := 1) (by first | exact hou_n (by assumption) | rfl) rfl rfl) ?_
    refine J_t1 (bI_t (in_nI hp (by omega))) ?_
    refine J_cvv (pc := 12) (N := mX10_needElement) dX10_pilgrim_12 ml_X10_199 cf_X10_needElement cv_X10_needElement r_X10_needElement_ok rfl rfl (Nat.le_of_ble_eq_true rfl) (by decide) (rv_of (ci := 10) rfl rfl rfl) ?_
    refine J_aload_n (pc := 15) dX10_pilgrim_15 rfl ?_
    refine J_iload_n (pc := 16) dX10_pilgrim_16 rfl ?_
    refine J_iconst (pc := 17) (v := 0) dX10_pilgrim_17 (by decide) ?_
    refine J_iconst (pc := 18) (v := 3) dX10_pilgrim_18 (by decide) ?_
    refine J_csr (pc := 19) (N := mX10_isWithin) dX10_pilgrim_19 ml_X10_177 cf_X10_isWithin cs_X10_isWithin r_X10_isWithin rfl rfl (Nat.le_of_ble_eq_true rfl) (by decide) ?_
    refine J_t1 (bI_t (by decide)) ?_
    refine J_cvv (pc := 22) (N := mX10_needArgument) dX10_pilgrim_22 ml_X10_181 cf_X10_needArgument cv_X10_needArgument r_X10_needArgument_ok rfl rfl (Nat.le_of_ble_eq_true rfl) (by decide) (rv_of (ci := 10) rfl rfl rfl) ?_
    refine J_iload_n (pc := 25) dX10_pilgrim_25 rfl ?_
    refine J_tableIn (pc := 26) (off := 52) (tgt := 78) dX10_pilgrim_26 (by decide) (by decide) (by decide) (by decide) ?_
    refine J_aload_n (pc := 78) dX10_pilgrim_78 rfl ?_
    refine J_getr (pc := 79) dX10_pilgrim_79 kc10 fl_X10_27 rfl ?_
    refine J_getrN (pc := 82) dX10_pilgrim_82 kc0 fl_X10_146 (by first | exact cvn_r0 (by assumption) | rfl) ?_
    refine J_bipush (pc := 85) (v := 23) dX10_pilgrim_85 (by decide) ?_
    refine J_iload_n (pc := 87) dX10_pilgrim_87 rfl ?_
    refine J_iadd (pc := 88) dX10_pilgrim_88 ?_
    refine J_il (pc := 89) dX10_pilgrim_89 (by first | exact cvn_e (by assumption) | rfl) (by first | exact nI_add 23 _ | (rw [ix_nI]; exact nI_add 23 _)) ⟨by first | decide | omega, by decide⟩ ?_
    exact J_iret (pc := 90) rfl rfl rfl dX10_pilgrim_90 (rqw hQ (hRC.2.2.2.2.2.2.2.1 _ hp) rfl)
  · refine J_aload_n (pc := 0) dX10_pilgrim_0 rfl ?_
    refine J_aload_n (pc := 1) dX10_pilgrim_1 rfl ?_
    refine J_getr (pc := 2) dX10_pilgrim_2 kc10 fl_X10_27 rfl ?_
    refine J_getpN (pc := 5) dX10_pilgrim_5 kc0 fl_X10_54 (by first | exact cvn_p2 (by assumption) | rfl) ?_
    refine J_tr hp2 ?_
    refine J_iload_n (pc := 8) dX10_pilgrim_8 rfl ?_
    refine J_cnr (pc := 9) (N := mX1_hasPilgrim) dX10_pilgrim_9 ml_X10_236 cf_X1_hasPilgrim cv_X1_hasPilgrim (r_X1_hasPilgrim (S := w1 S T) hHL hHC hv) rfl rfl (Nat.le_of_ble_eq_true rfl) (by decide) (rv_of (ci := 1) (by first | exact hou_n (by assumption) | rfl) rfl rfl) ?_
    refine J_t1 (bI_t (in_nI hp (by omega))) ?_
    refine J_cvv (pc := 12) (N := mX10_needElement) dX10_pilgrim_12 ml_X10_199 cf_X10_needElement cv_X10_needElement r_X10_needElement_ok rfl rfl (Nat.le_of_ble_eq_true rfl) (by decide) (rv_of (ci := 10) rfl rfl rfl) ?_
    refine J_aload_n (pc := 15) dX10_pilgrim_15 rfl ?_
    refine J_iload_n (pc := 16) dX10_pilgrim_16 rfl ?_
    refine J_iconst (pc := 17) (v := 0) dX10_pilgrim_17 (by decide) ?_
    refine J_iconst (pc := 18) (v := 3) dX10_pilgrim_18 (by decide) ?_
    refine J_csr (pc := 19) (N := mX10_isWithin) dX10_pilgrim_19 ml_X10_177 cf_X10_isWithin cs_X10_isWithin r_X10_isWithin rfl rfl (Nat.le_of_ble_eq_true rfl) (by decide) ?_
    refine J_t1 (bI_t (by decide)) ?_
    refine J_cvv (pc := 22) (N := mX10_needArgument) dX10_pilgrim_22 ml_X10_181 cf_X10_needArgument cv_X10_needArgument r_X10_needArgument_ok rfl rfl (Nat.le_of_ble_eq_true rfl) (by decide) (rv_of (ci := 10) rfl rfl rfl) ?_
    refine J_iload_n (pc := 25) dX10_pilgrim_25 rfl ?_
    refine J_tableOut (pc := 26) (tgt := 91) dX10_pilgrim_26 (by decide) (by decide) ?_
    refine J_aload_n (pc := 91) dX10_pilgrim_91 rfl ?_
    refine J_getr (pc := 92) dX10_pilgrim_92 kc10 fl_X10_27 rfl ?_
    refine J_iload_n (pc := 95) dX10_pilgrim_95 rfl ?_
    refine J_iconst (pc := 96) (v := 0) dX10_pilgrim_96 (by decide) ?_
    refine J_cnw (pc := 97) (N := mX0_relicsThatCan) dX10_pilgrim_97 ml_X10_245 cf_X0_relicsThatCan cv_X0_relicsThatCan (r_X0_relicsThatCan hX hp) rfl rfl (Nat.le_of_ble_eq_true rfl) (by decide) (rv_of (ci := 0) (by first | exact cvn_n (by assumption) | rfl) rfl rfl) ?_
    intro T
    exact J_iret (pc := 100) rfl rfl rfl dX10_pilgrim_100 (rqw hQ rfl rfl)
theorem r_X10_would {g : Gp} {S : Sx} {a b m : Nat} {d : HD} {wv : Nat → Nat × Nat} {f : Row} (hX : CX S 3 16 17 a b d m wv f) {a1 a2 a3 a4 a5 a6 a7 a8 : Int32} (hv1 : wvd a1 a2 a3 a4 a5 a6 a7 a8) : RW g mX10_would 3 [.ref 0, .int a1, .int a2, .int a3, .int a4, .int a5, .int a6, .int a7, .int a8] S (some (.int (pval m wv (kn8 a1 a2 a3 a4 a5 a6 a7 a8)))) S := by
  refine RW_ofQ ⟨rfl, rfl⟩ (Nat.le_of_ble_eq_true rfl) (fun T sz Q hQ => ?_)
  obtain ⟨hCL, hHL, hLL, hp2, hp3, hHC, hv, hW, hLC, hRC⟩ := id hX
  have n1 : dNs d ≤ 8 := hv.1
  have n2 : dNr d ≤ 10 := hv.2.1
  have n3 : dNp d ≤ 8 := hv.2.2.1
  unfold wvd at hv1
  refine J_aload_n (pc := 0) dX10_would_0 rfl ?_
  refine J_iload_n (pc := 1) dX10_would_1 rfl ?_
  refine J_iconst (pc := 2) (v := 1) dX10_would_2 (by decide) ?_
  refine J_bipush (pc := 3) (v := 30) dX10_would_3 (by decide) ?_
  refine J_csr (pc := 5) (N := mX10_isWithin) dX10_would_5 ml_X10_177 cf_X10_isWithin cs_X10_isWithin r_X10_isWithin rfl rfl (Nat.le_of_ble_eq_true rfl) (by decide) ?_
  refine J_ifp_eq (pc := 8) (tgt := 92) dX10_would_8 (by decide) (fun c8 => absurd hv1.1 c8) (fun c8 => ?_)
  refine J_iload_n (pc := 11) dX10_would_11 rfl ?_
  refine J_iconst (pc := 12) (v := 0) dX10_would_12 (by decide) ?_
  refine J_sipush (pc := 13) (v := 999) dX10_would_13 (by decide) ?_
  refine J_csr (pc := 16) (N := mX10_isWithin) dX10_would_16 ml_X10_177 cf_X10_isWithin cs_X10_isWithin r_X10_isWithin rfl rfl (Nat.le_of_ble_eq_true rfl) (by decide) ?_
  refine J_ifp_eq (pc := 19) (tgt := 92) dX10_would_19 (by decide) (fun c19 => absurd hv1.2.1 c19) (fun c19 => ?_)
  refine J_iload_n (pc := 22) dX10_would_22 rfl ?_
  refine J_iconst (pc := 23) (v := 0) dX10_would_23 (by decide) ?_
  refine J_sipush (pc := 24) (v := 999) dX10_would_24 (by decide) ?_
  refine J_csr (pc := 27) (N := mX10_isWithin) dX10_would_27 ml_X10_177 cf_X10_isWithin cs_X10_isWithin r_X10_isWithin rfl rfl (Nat.le_of_ble_eq_true rfl) (by decide) ?_
  refine J_ifp_eq (pc := 30) (tgt := 92) dX10_would_30 (by decide) (fun c30 => absurd hv1.2.2.1 c30) (fun c30 => ?_)
  refine J_iload (pc := 33) dX10_would_33 rfl ?_
  refine J_iconst (pc := 35) (v := 0) dX10_would_35 (by decide) ?_
  refine J_bipush (pc := 36) (v := 15) dX10_would_36 (by decide) ?_
  refine J_csr (pc := 38) (N := mX10_isWithin) dX10_would_38 ml_X10_177 cf_X10_isWithin cs_X10_isWithin r_X10_isWithin rfl rfl (Nat.le_of_ble_eq_true rfl) (by decide) ?_
  refine J_ifp_eq (pc := 41) (tgt := 92) dX10_would_41 (by decide) (fun c41 => absurd hv1.2.2.2.1 c41) (fun c41 => ?_)
  refine J_iload (pc := 44) dX10_would_44 rfl ?_
  refine J_iconst (pc := 46) (v := 0) dX10_would_46 (by decide) ?_
  refine J_iconst (pc := 47) (v := 5) dX10_would_47 (by decide) ?_
  refine J_csr (pc := 48) (N := mX10_isWithin) dX10_would_48 ml_X10_177 cf_X10_isWithin cs_X10_isWithin r_X10_isWithin rfl rfl (Nat.le_of_ble_eq_true rfl) (by decide) ?_
  refine J_ifp_eq (pc := 51) (tgt := 92) dX10_would_51 (by decide) (fun c51 => absurd hv1.2.2.2.2.1 c51) (fun c51 => ?_)
  refine J_iload (pc := 54) dX10_would_54 rfl ?_
  refine J_iconst (pc := 56) (v := 0) dX10_would_56 (by decide) ?_
  refine J_bipush (pc := 57) (v := 9) dX10_would_57 (by decide) ?_
  refine J_csr (pc := 59) (N := mX10_isWithin) dX10_would_59 ml_X10_177 cf_X10_isWithin cs_X10_isWithin r_X10_isWithin rfl rfl (Nat.le_of_ble_eq_true rfl) (by decide) ?_
  refine J_ifp_eq (pc := 62) (tgt := 92) dX10_would_62 (by decide) (fun c62 => absurd hv1.2.2.2.2.2.1 c62) (fun c62 => ?_)
  refine J_iload (pc := 65) dX10_would_65 rfl ?_
  refine J_iconst (pc := 67) (v := 0) dX10_would_67 (by decide) ?_
  refine J_bipush (pc := 68) (v := 7) dX10_would_68 (by decide) ?_
  refine J_csr (pc := 70) (N := mX10_isWithin) dX10_would_70 ml_X10_177 cf_X10_isWithin cs_X10_isWithin r_X10_isWithin rfl rfl (Nat.le_of_ble_eq_true rfl) (by decide) ?_
  refine J_ifp_eq (pc := 73) (tgt := 92) dX10_would_73 (by decide) (fun c73 => absurd hv1.2.2.2.2.2.2.1 c73) (fun c73 => ?_)
  refine J_iload (pc := 76) dX10_would_76 rfl ?_
  refine J_iconst (pc := 78) (v := 0) dX10_would_78 (by decide) ?_
  refine J_sipush (pc := 79) (v := 500) dX10_would_79 (by decide) ?_
  refine J_csr (pc := 82) (N := mX10_isWithin) dX10_would_82 ml_X10_177 cf_X10_isWithin cs_X10_isWithin r_X10_isWithin rfl rfl (Nat.le_of_ble_eq_true rfl) (by decide) ?_
  refine J_ifp_eq (pc := 85) (tgt := 92) dX10_would_85 (by decide) (fun c85 => absurd hv1.2.2.2.2.2.2.2 c85) (fun c85 => ?_)
  refine J_iconst (pc := 88) (v := 1) dX10_would_88 (by decide) ?_
  refine J_goto (pc := 89) (tgt := 93) dX10_would_89 (by decide) ?_
  refine J_cvv (pc := 93) (N := mX10_needArgument) dX10_would_93 ml_X10_181 cf_X10_needArgument cv_X10_needArgument r_X10_needArgument_ok rfl rfl (Nat.le_of_ble_eq_true rfl) (by decide) (rv_of (ci := 10) rfl rfl rfl) ?_
  refine J_aload_n (pc := 96) dX10_would_96 rfl ?_
  refine J_getr (pc := 97) dX10_would_97 kc10 fl_X10_27 rfl ?_
  refine J_getrN (pc := 100) dX10_would_100 kc0 fl_X10_249 (by first | exact cvn_r1 (by assumption) | rfl) ?_
  refine J_astore (pc := 103) dX10_would_103 (by decide) rfl ?_
  refine J_aload (pc := 105) dX10_would_105 rfl ?_
  refine J_iconst (pc := 107) (v := 0) dX10_would_107 (by decide) ?_
  refine J_iload_n (pc := 108) dX10_would_108 rfl ?_
  refine J_xsw (pc := 109) dX10_would_109 (cvn_i hCL) (rfl : (0 : Int32) = nI 0) ⟨by first | decide | omega, by decide⟩ ?_
  refine J_aload (pc := 110) dX10_would_110 rfl ?_
  refine J_iconst (pc := 112) (v := 1) dX10_would_112 (by decide) ?_
  refine J_iload_n (pc := 113) dX10_would_113 rfl ?_
  refine J_xsw (pc := 114) dX10_would_114 (cvn_i hCL) (rfl : (1 : Int32) = nI 1) ⟨by first | decide | omega, by decide⟩ ?_
  refine J_aload (pc := 115) dX10_would_115 rfl ?_
  refine J_iconst (pc := 117) (v := 2) dX10_would_117 (by decide) ?_
  refine J_iload_n (pc := 118) dX10_would_118 rfl ?_
  refine J_xsw (pc := 119) dX10_would_119 (cvn_i hCL) (rfl : (2 : Int32) = nI 2) ⟨by first | decide | omega, by decide⟩ ?_
  refine J_aload (pc := 120) dX10_would_120 rfl ?_
  refine J_iconst (pc := 122) (v := 3) dX10_would_122 (by decide) ?_
  refine J_iload (pc := 123) dX10_would_123 rfl ?_
  refine J_xsw (pc := 125) dX10_would_125 (cvn_i hCL) (rfl : (3 : Int32) = nI 3) ⟨by first | decide | omega, by decide⟩ ?_
  refine J_aload (pc := 126) dX10_would_126 rfl ?_
  refine J_iconst (pc := 128) (v := 4) dX10_would_128 (by decide) ?_
  refine J_iload (pc := 129) dX10_would_129 rfl ?_
  refine J_xsw (pc := 131) dX10_would_131 (cvn_i hCL) (rfl : (4 : Int32) = nI 4) ⟨by first | decide | omega, by decide⟩ ?_
  refine J_aload (pc := 132) dX10_would_132 rfl ?_
  refine J_iconst (pc := 134) (v := 5) dX10_would_134 (by decide) ?_
  refine J_iload (pc := 135) dX10_would_135 rfl ?_
  refine J_xsw (pc := 137) dX10_would_137 (cvn_i hCL) (rfl : (5 : Int32) = nI 5) ⟨by first | decide | omega, by decide⟩ ?_
  refine J_aload (pc := 138) dX10_would_138 rfl ?_
  refine J_bipush (pc := 140) (v := 6) dX10_would_140 (by decide) ?_
  refine J_iload (pc := 142) dX10_would_142 rfl ?_
  refine J_xsw (pc := 144) dX10_would_144 (cvn_i hCL) (rfl : (6 : Int32) = nI 6) ⟨by first | decide | omega, by decide⟩ ?_
  refine J_aload (pc := 145) dX10_would_145 rfl ?_
  refine J_bipush (pc := 147) (v := 7) dX10_would_147 (by decide) ?_
  refine J_iload (pc := 149) dX10_would_149 rfl ?_
  refine J_xsw (pc := 151) dX10_would_151 (cvn_i hCL) (rfl : (7 : Int32) = nI 7) ⟨by first | decide | omega, by decide⟩ ?_
  refine J_aload_n (pc := 152) dX10_would_152 rfl ?_
  refine J_getr (pc := 153) dX10_would_153 kc10 fl_X10_27 rfl ?_
  refine J_getpN (pc := 156) dX10_would_156 kc0 fl_X10_58 (by first | exact cvn_p3 (by assumption) | rfl) ?_
  refine J_tr hp3 ?_
  refine J_cg2 (S' := w1 S (sX (sX (sX (sX (sX (sX (sX (sX T 17 0 a1) 17 1 a2) 17 2 a3) 17 3 a4) 17 4 a5) 17 5 a6) 17 6 a7) 17 7 a8)) rfl ?_
  refine J_aload (pc := 159) dX10_would_159 rfl ?_
  refine J_cnr (pc := 161) (N := mX2_power) dX10_would_161 ml_X10_252 cf_X2_power cv_X2_power (r_X2_power hLL hCL (cW_W hW) hLC.1 hLC.2) rfl rfl (Nat.le_of_ble_eq_true rfl) (by decide) (rv_of (ci := 2) (by first | exact law_n (by assumption) | rfl) rfl rfl) ?_
  exact J_iret (pc := 164) rfl rfl rfl dX10_would_164 (by rw [cl_val (kn' := kn8 a1 a2 a3 a4 a5 a6 a7 a8) hW _ (fun k hk => by (obtain rfl | rfl | rfl | rfl | rfl | rfl | rfl | rfl : k = 0 ∨ k = 1 ∨ k = 2 ∨ k = 3 ∨ k = 4 ∨ k = 5 ∨ k = 6 ∨ k = 7 := by omega) <;> rfl)]; exact hQ (sXX (sX (sX (sX (sX (sX (sX (sX (sX T 17 0 a1) 17 1 a2) 17 2 a3) 17 3 a4) 17 4 a5) 17 5 a6) 17 6 a7) 17 7 a8) (b + 2) _))
theorem r_X10_can {g : Gp} {S : Sx} {a b m : Nat} {d : HD} {wv : Nat → Nat × Nat} {f : Row} (hX : CX S 3 16 17 a b d m wv f) {r p : Nat} (hr : r < dNr d) (hp : p < dNp d) : RW g mX10_can 5 [.ref 0, .int (nI r), .int (nI p)] S (some (.int (bI (decide (f (36 + p) = -1 ∧ ¬ f (26 + r) = 1 ∧ cnB d m wv f r p 0 = true))))) S := by
  refine RW_ofQ ⟨rfl, rfl⟩ (Nat.le_of_ble_eq_true rfl) (fun T sz Q hQ => ?_)
  obtain ⟨hCL, hHL, hLL, hp2, hp3, hHC, hv, hW, hLC, hRC⟩ := id hX
  have n1 : dNs d ≤ 8 := hv.1
  have n2 : dNr d ≤ 10 := hv.2.1
  have n3 : dNp d ≤ 8 := hv.2.2.1
  refine J_aload_n (pc := 0) dX10_can_0 rfl ?_
  refine J_aload_n (pc := 1) dX10_can_1 rfl ?_
  refine J_getr (pc := 2) dX10_can_2 kc10 fl_X10_27 rfl ?_
  refine J_getpN (pc := 5) dX10_can_5 kc0 fl_X10_54 (by first | exact cvn_p2 (by assumption) | rfl) ?_
  refine J_tr hp2 ?_
  refine J_iload_n (pc := 8) dX10_can_8 rfl ?_
  refine J_cnr (pc := 9) (N := mX1_hasRelic) dX10_can_9 ml_X10_215 cf_X1_hasRelic cv_X1_hasRelic (r_X1_hasRelic (S := w1 S T) hHL hHC hv) rfl rfl (Nat.le_of_ble_eq_true rfl) (by decide) (rv_of (ci := 1) (by first | exact hou_n (by assumption) | rfl) rfl rfl) ?_
  refine J_ifp_eq (pc := 12) (tgt := 33) dX10_can_12 (by decide) (fun c12 => absurd (in_nI hr (by omega)) c12) (fun c12 => ?_)
  refine J_aload_n (pc := 15) dX10_can_15 rfl ?_
  refine J_getr (pc := 16) dX10_can_16 kc10 fl_X10_27 rfl ?_
  refine J_getpN (pc := 19) dX10_can_19 kc0 fl_X10_54 (by first | exact cvn_p2 (by assumption) | rfl) ?_
  refine J_tr hp2 ?_
  refine J_iload_n (pc := 22) dX10_can_22 rfl ?_
  refine J_cnr (pc := 23) (N := mX1_hasPilgrim) dX10_can_23 ml_X10_236 cf_X1_hasPilgrim cv_X1_hasPilgrim (r_X1_hasPilgrim (S := w1 S T) hHL hHC hv) rfl rfl (Nat.le_of_ble_eq_true rfl) (by decide) (rv_of (ci := 1) (by first | exact hou_n (by assumption) | rfl) rfl rfl) ?_
  refine J_ifp_eq (pc := 26) (tgt := 33) dX10_can_26 (by decide) (fun c26 => absurd (in_nI hp (by omega)) c26) (fun c26 => ?_)
  refine J_iconst (pc := 29) (v := 1) dX10_can_29 (by decide) ?_
  refine J_goto (pc := 30) (tgt := 34) dX10_can_30 (by decide) ?_
  refine J_cvv (pc := 34) (N := mX10_needElement) dX10_can_34 ml_X10_199 cf_X10_needElement cv_X10_needElement r_X10_needElement_ok rfl rfl (Nat.le_of_ble_eq_true rfl) (by decide) (rv_of (ci := 10) rfl rfl rfl) ?_
  refine J_aload_n (pc := 37) dX10_can_37 rfl ?_
  refine J_getr (pc := 38) dX10_can_38 kc10 fl_X10_27 rfl ?_
  refine J_iload_n (pc := 41) dX10_can_41 rfl ?_
  refine J_cnr (pc := 42) (N := mX0_isCured) dX10_can_42 ml_X10_256 cf_X0_isCured cv_X0_isCured (r_X0_isCured (S := w1 S T) hX hp) rfl rfl (Nat.le_of_ble_eq_true rfl) (by decide) (rv_of (ci := 0) (by first | exact cvn_n (by assumption) | rfl) rfl rfl) ?_
  refine J_ifp_ne (pc := 45) (tgt := 76) dX10_can_45 (by decide) (fun c45 => ?_) (fun c45 => ?_)
  · refine J_iconst (pc := 76) (v := 0) dX10_can_76 (by decide) ?_
    exact J_iret (pc := 77) rfl rfl rfl dX10_can_77 (rqw hQ (by first | exact Eq.symm (bI_t ⟨Decidable.not_not.mp c45, c56, c69⟩) | exact Eq.symm (bI_f (fun q => c45 q.1)) | exact Eq.symm (bI_f (fun q => q.2.1 c56)) | exact Eq.symm (bI_f (fun q => c69 q.2.2))) rfl)
  · refine J_aload_n (pc := 48) dX10_can_48 rfl ?_
    refine J_getr (pc := 49) dX10_can_49 kc10 fl_X10_27 rfl ?_
    refine J_iload_n (pc := 52) dX10_can_52 rfl ?_
    refine J_cnr (pc := 53) (N := mX0_isUsed) dX10_can_53 ml_X10_259 cf_X0_isUsed cv_X0_isUsed (r_X0_isUsed (S := w1 S T) hX hr) rfl rfl (Nat.le_of_ble_eq_true rfl) (by decide) (rv_of (ci := 0) (by first | exact cvn_n (by assumption) | rfl) rfl rfl) ?_
    refine J_ifp_ne (pc := 56) (tgt := 76) dX10_can_56 (by decide) (fun c56 => ?_) (fun c56 => ?_)
    · refine J_iconst (pc := 76) (v := 0) dX10_can_76 (by decide) ?_
      exact J_iret (pc := 77) rfl rfl rfl dX10_can_77 (rqw hQ (by first | exact Eq.symm (bI_t ⟨Decidable.not_not.mp c45, c56, c69⟩) | exact Eq.symm (bI_f (fun q => c45 q.1)) | exact Eq.symm (bI_f (fun q => q.2.1 c56)) | exact Eq.symm (bI_f (fun q => c69 q.2.2))) rfl)
    · refine J_aload_n (pc := 59) dX10_can_59 rfl ?_
      refine J_getr (pc := 60) dX10_can_60 kc10 fl_X10_27 rfl ?_
      refine J_iload_n (pc := 63) dX10_can_63 rfl ?_
      refine J_iload_n (pc := 64) dX10_can_64 rfl ?_
      refine J_iconst (pc := 65) (v := 0) dX10_can_65 (by decide) ?_
      refine J_cnw (pc := 66) (N := mX0_canIn) dX10_can_66 ml_X10_262 cf_X0_canIn cv_X0_canIn (r_X0_canIn hX hr hp) rfl rfl (Nat.le_of_ble_eq_true rfl) (by decide) (rv_of (ci := 0) (by first | exact cvn_n (by assumption) | rfl) rfl rfl) ?_
      intro T
      refine J_ifp_eq (pc := 69) (tgt := 76) dX10_can_69 (by decide) (fun c69 => ?_) (fun c69 => ?_)
      · refine J_iconst (pc := 76) (v := 0) dX10_can_76 (by decide) ?_
        exact J_iret (pc := 77) rfl rfl rfl dX10_can_77 (rqw hQ (by first | exact Eq.symm (bI_t ⟨Decidable.not_not.mp c45, c56, c69⟩) | exact Eq.symm (bI_f (fun q => c45 q.1)) | exact Eq.symm (bI_f (fun q => q.2.1 c56)) | exact Eq.symm (bI_f (fun q => c69 q.2.2))) rfl)
      · refine J_iconst (pc := 72) (v := 1) dX10_can_72 (by decide) ?_
        refine J_goto (pc := 73) (tgt := 77) dX10_can_73 (by decide) ?_
        exact J_iret (pc := 77) rfl rfl rfl dX10_can_77 (rqw hQ (by first | exact Eq.symm (bI_t ⟨Decidable.not_not.mp c45, c56, c69⟩) | exact Eq.symm (bI_f (fun q => c45 q.1)) | exact Eq.symm (bI_f (fun q => q.2.1 c56)) | exact Eq.symm (bI_f (fun q => c69 q.2.2))) rfl)
theorem r_X10_when {g : Gp} {S : Sx} {a b m : Nat} {d : HD} {wv : Nat → Nat × Nat} {f : Row} (hX : CX S 3 16 17 a b d m wv f) {r p : Nat} (hr : r < dNr d) (hp : p < dNp d) : RW g mX10_when 5 [.ref 0, .int (nI r), .int (nI p)] S (some (.int (fst1 (fun k => cnB d m wv f r p (nI k)) 201))) S := by
  refine RW_ofQ ⟨rfl, rfl⟩ (Nat.le_of_ble_eq_true rfl) (fun T sz Q hQ => ?_)
  obtain ⟨hCL, hHL, hLL, hp2, hp3, hHC, hv, hW, hLC, hRC⟩ := id hX
  have n1 : dNs d ≤ 8 := hv.1
  have n2 : dNr d ≤ 10 := hv.2.1
  have n3 : dNp d ≤ 8 := hv.2.2.1
  refine J_aload_n (pc := 0) dX10_when_0 rfl ?_
  refine J_aload_n (pc := 1) dX10_when_1 rfl ?_
  refine J_getr (pc := 2) dX10_when_2 kc10 fl_X10_27 rfl ?_
  refine J_getpN (pc := 5) dX10_when_5 kc0 fl_X10_54 (by first | exact cvn_p2 (by assumption) | rfl) ?_
  refine J_tr hp2 ?_
  refine J_iload_n (pc := 8) dX10_when_8 rfl ?_
  refine J_cnr (pc := 9) (N := mX1_hasRelic) dX10_when_9 ml_X10_215 cf_X1_hasRelic cv_X1_hasRelic (r_X1_hasRelic (S := w1 S T) hHL hHC hv) rfl rfl (Nat.le_of_ble_eq_true rfl) (by decide) (rv_of (ci := 1) (by first | exact hou_n (by assumption) | rfl) rfl rfl) ?_
  refine J_ifp_eq (pc := 12) (tgt := 33) dX10_when_12 (by decide) (fun c12 => absurd (in_nI hr (by omega)) c12) (fun c12 => ?_)
  refine J_aload_n (pc := 15) dX10_when_15 rfl ?_
  refine J_getr (pc := 16) dX10_when_16 kc10 fl_X10_27 rfl ?_
  refine J_getpN (pc := 19) dX10_when_19 kc0 fl_X10_54 (by first | exact cvn_p2 (by assumption) | rfl) ?_
  refine J_tr hp2 ?_
  refine J_iload_n (pc := 22) dX10_when_22 rfl ?_
  refine J_cnr (pc := 23) (N := mX1_hasPilgrim) dX10_when_23 ml_X10_236 cf_X1_hasPilgrim cv_X1_hasPilgrim (r_X1_hasPilgrim (S := w1 S T) hHL hHC hv) rfl rfl (Nat.le_of_ble_eq_true rfl) (by decide) (rv_of (ci := 1) (by first | exact hou_n (by assumption) | rfl) rfl rfl) ?_
  refine J_ifp_eq (pc := 26) (tgt := 33) dX10_when_26 (by decide) (fun c26 => absurd (in_nI hp (by omega)) c26) (fun c26 => ?_)
  refine J_iconst (pc := 29) (v := 1) dX10_when_29 (by decide) ?_
  refine J_goto (pc := 30) (tgt := 34) dX10_when_30 (by decide) ?_
  refine J_cvv (pc := 34) (N := mX10_needElement) dX10_when_34 ml_X10_199 cf_X10_needElement cv_X10_needElement r_X10_needElement_ok rfl rfl (Nat.le_of_ble_eq_true rfl) (by decide) (rv_of (ci := 10) rfl rfl rfl) ?_
  refine J_iconst (pc := 37) (v := 0) dX10_when_37 (by decide) ?_
  refine J_istore_n (pc := 38) dX10_when_38 (by decide) rfl ?_
  refine dn_ind (n := 201) (P := fun i => (∀ j, j < i → ¬ (fun k => cnB d m wv f r p (nI k)) j = true) → ∀ T, J g mX10_when 5 [] 39 [some (.ref 0), some (.int (nI r)), some (.int (nI p)), some (.int (ix i))] [] (hs (w1 S T)) sz 0 0 Q) ?_ (fun i hi ih => ?_) 0 (Nat.zero_le _) (fun j h => by omega) T
  · intro hno T
    refine J_iload_n (pc := 39) dX10_when_39 rfl ?_
    refine J_sipush (pc := 40) (v := 200) dX10_when_40 (by decide) ?_
    refine J_icmp_gt (pc := 43) (tgt := 67) dX10_when_43 (by decide) (fun c43 => ?_) (fun c43 => absurd (by rw [ix_nI]; exact nI_lt (a := 200) (by decide) (by decide)) c43)
    refine J_iconst (pc := 67) (v := -1) dX10_when_67 (by decide) ?_
    exact J_iret (pc := 68) rfl rfl rfl dX10_when_68 (rqw hQ (fst1_no hno).symm rfl)
  · intro hno T
    refine J_iload_n (pc := 39) dX10_when_39 rfl ?_
    refine J_sipush (pc := 40) (v := 200) dX10_when_40 (by decide) ?_
    refine J_icmp_gt (pc := 43) (tgt := 67) dX10_when_43 (by decide) (fun c43 => absurd c43 (by rw [ix_nI]; exact Int32.not_lt.mpr (nI_le (b := 200) (by omega) (by decide)))) (fun c43 => ?_)
    refine J_aload_n (pc := 46) dX10_when_46 rfl ?_
    refine J_getr (pc := 47) dX10_when_47 kc10 fl_X10_27 rfl ?_
    refine J_iload_n (pc := 50) dX10_when_50 rfl ?_
    refine J_iload_n (pc := 51) dX10_when_51 rfl ?_
    refine J_iload_n (pc := 52) dX10_when_52 rfl ?_
    refine J_t1 (ix_nI i) ?_
    refine J_cnw (pc := 53) (N := mX0_canIn) dX10_when_53 ml_X10_262 cf_X0_canIn cv_X0_canIn (r_X0_canIn hX hr hp) rfl rfl (Nat.le_of_ble_eq_true rfl) (by decide) (rv_of (ci := 0) (by first | exact cvn_n (by assumption) | rfl) rfl rfl) ?_
    intro T
    refine J_ifp_eq (pc := 56) (tgt := 61) dX10_when_56 (by decide) (fun c56 => ?_) (fun c56 => ?_)
    · refine J_iinc (pc := 61) (v := 1) dX10_when_61 rfl (by decide) rfl ?_
      refine J_goto (pc := 64) (tgt := 39) dX10_when_64 (by decide) ?_
      refine ih (fun j hj => ?_) _
      by_cases e : j < i
      · exact hno j e
      · rw [show j = i by omega]; exact c56
    · refine J_iload_n (pc := 59) dX10_when_59 rfl ?_
      exact J_iret (pc := 60) rfl rfl rfl dX10_when_60 (rqw hQ (by rw [fst1_at (p := (fun k => cnB d m wv f r p (nI k))) c56 (by omega) hno hi, ix_nI]) rfl)
theorem r_X10_ahead {g : Gp} {S : Sx} {a b m : Nat} {d : HD} {wv : Nat → Nat × Nat} {f : Row} (hX : CX S 3 16 17 a b d m wv f) {r n : Nat} {z : Int32} (hr : r < dNr d) (hn : n ≤ 99) (hz : 0 ≤ z ∧ z ≤ 1) : RW g mX10_ahead 5 [.ref 0, .int (nI r), .int (nI n), .int z] S (some (.int (if z = 0 then pwX d m wv f r (f (16 + r) + nI n) (f (8 + dOw d r)) (f 44 + nI n) else pwX d m wv f r (f (16 + r) / 2 + nI n) (f (8 + dOw d r) + 1) (f 44 + nI n)))) S := by
  refine RW_ofQ ⟨rfl, rfl⟩ (Nat.le_of_ble_eq_true rfl) (fun T sz Q hQ => ?_)
  obtain ⟨hCL, hHL, hLL, hp2, hp3, hHC, hv, hW, hLC, hRC⟩ := id hX
  have n1 : dNs d ≤ 8 := hv.1
  have n2 : dNr d ≤ 10 := hv.2.1
  have n3 : dNp d ≤ 8 := hv.2.2.1
  refine J_aload_n (pc := 0) dX10_ahead_0 rfl ?_
  refine J_aload_n (pc := 1) dX10_ahead_1 rfl ?_
  refine J_getr (pc := 2) dX10_ahead_2 kc10 fl_X10_27 rfl ?_
  refine J_getpN (pc := 5) dX10_ahead_5 kc0 fl_X10_54 (by first | exact cvn_p2 (by assumption) | rfl) ?_
  refine J_tr hp2 ?_
  refine J_iload_n (pc := 8) dX10_ahead_8 rfl ?_
  refine J_cnr (pc := 9) (N := mX1_hasRelic) dX10_ahead_9 ml_X10_215 cf_X1_hasRelic cv_X1_hasRelic (r_X1_hasRelic (S := w1 S T) hHL hHC hv) rfl rfl (Nat.le_of_ble_eq_true rfl) (by decide) (rv_of (ci := 1) (by first | exact hou_n (by assumption) | rfl) rfl rfl) ?_
  refine J_t1 (bI_t (in_nI hr (by omega))) ?_
  refine J_cvv (pc := 12) (N := mX10_needElement) dX10_ahead_12 ml_X10_199 cf_X10_needElement cv_X10_needElement r_X10_needElement_ok rfl rfl (Nat.le_of_ble_eq_true rfl) (by decide) (rv_of (ci := 10) rfl rfl rfl) ?_
  refine J_aload_n (pc := 15) dX10_ahead_15 rfl ?_
  refine J_iload_n (pc := 16) dX10_ahead_16 rfl ?_
  refine J_iconst (pc := 17) (v := 0) dX10_ahead_17 (by decide) ?_
  refine J_bipush (pc := 18) (v := 99) dX10_ahead_18 (by decide) ?_
  refine J_csr (pc := 20) (N := mX10_isWithin) dX10_ahead_20 ml_X10_177 cf_X10_isWithin cs_X10_isWithin r_X10_isWithin rfl rfl (Nat.le_of_ble_eq_true rfl) (by decide) ?_
  refine J_ifp_eq (pc := 23) (tgt := 39) dX10_ahead_23 (by decide) (fun c23 => absurd (show 0 ≤ nI n ∧ nI n ≤ 99 from ⟨nI_pos' (by omega), nI_le (b := 99) hn (by decide)⟩) c23) (fun c23 => ?_)
  refine J_iload_n (pc := 26) dX10_ahead_26 rfl ?_
  refine J_iconst (pc := 27) (v := 0) dX10_ahead_27 (by decide) ?_
  refine J_iconst (pc := 28) (v := 1) dX10_ahead_28 (by decide) ?_
  refine J_csr (pc := 29) (N := mX10_isWithin) dX10_ahead_29 ml_X10_177 cf_X10_isWithin cs_X10_isWithin r_X10_isWithin rfl rfl (Nat.le_of_ble_eq_true rfl) (by decide) ?_
  refine J_ifp_eq (pc := 32) (tgt := 39) dX10_ahead_32 (by decide) (fun c32 => absurd hz c32) (fun c32 => ?_)
  refine J_iconst (pc := 35) (v := 1) dX10_ahead_35 (by decide) ?_
  refine J_goto (pc := 36) (tgt := 40) dX10_ahead_36 (by decide) ?_
  refine J_cvv (pc := 40) (N := mX10_needArgument) dX10_ahead_40 ml_X10_181 cf_X10_needArgument cv_X10_needArgument r_X10_needArgument_ok rfl rfl (Nat.le_of_ble_eq_true rfl) (by decide) (rv_of (ci := 10) rfl rfl rfl) ?_
  refine J_iload_n (pc := 43) dX10_ahead_43 rfl ?_
  refine J_if_ne (pc := 44) (tgt := 59) dX10_ahead_44 (by decide) (fun c44 => ?_) (fun c44 => ?_)
  · refine J_aload_n (pc := 59) dX10_ahead_59 rfl ?_
    refine J_getr (pc := 60) dX10_ahead_60 kc10 fl_X10_27 rfl ?_
    refine J_iload_n (pc := 63) dX10_ahead_63 rfl ?_
    refine J_iload_n (pc := 64) dX10_ahead_64 rfl ?_
    refine J_cnw (pc := 65) (N := mX0_powerIfLapsed) dX10_ahead_65 ml_X10_268 cf_X0_powerIfLapsed cv_X0_powerIfLapsed (r_X0_powerIfLapsed hX hr) rfl rfl (Nat.le_of_ble_eq_true rfl) (by decide) (rv_of (ci := 0) (by first | exact cvn_n (by assumption) | rfl) rfl rfl) ?_
    intro T
    exact J_iret (pc := 68) rfl rfl rfl dX10_ahead_68 (rqw hQ (by first | rw [if_pos c44] | rw [if_neg c44]) rfl)
  · refine J_aload_n (pc := 47) dX10_ahead_47 rfl ?_
    refine J_getr (pc := 48) dX10_ahead_48 kc10 fl_X10_27 rfl ?_
    refine J_iload_n (pc := 51) dX10_ahead_51 rfl ?_
    refine J_iload_n (pc := 52) dX10_ahead_52 rfl ?_
    refine J_cnw (pc := 53) (N := mX0_powerIn) dX10_ahead_53 ml_X10_265 cf_X0_powerIn cv_X0_powerIn (r_X0_powerIn hX hr) rfl rfl (Nat.le_of_ble_eq_true rfl) (by decide) (rv_of (ci := 0) (by first | exact cvn_n (by assumption) | rfl) rfl rfl) ?_
    intro T
    refine J_goto (pc := 56) (tgt := 68) dX10_ahead_56 (by decide) ?_
    exact J_iret (pc := 68) rfl rfl rfl dX10_ahead_68 (rqw hQ (by first | rw [if_pos c44] | rw [if_neg c44]) rfl)
theorem r_X10_ring {g : Gp} {S : Sx} {a b m : Nat} {d : HD} {wv : Nat → Nat × Nat} {f : Row} (hX : CX S 3 16 17 a b d m wv f) {s : Nat} (hs' : s < dNs d) : RT g mX10_ring 2 [.ref 0, .int (nI s)] S (some (.int (ov (rgv d.2.1 s 8)))) S := by
  refine RT_ofQ ⟨rfl, rfl⟩ (Nat.le_of_ble_eq_true rfl) (fun sz Q hQ => ?_)
  obtain ⟨hCL, hHL, hLL, hp2, hp3, hHC, hv, hW, hLC, hRC⟩ := id hX
  have n1 : dNs d ≤ 8 := hv.1
  have n2 : dNr d ≤ 10 := hv.2.1
  have n3 : dNp d ≤ 8 := hv.2.2.1
  refine J_aload_n (pc := 0) dX10_ring_0 rfl ?_
  refine J_aload_n (pc := 1) dX10_ring_1 rfl ?_
  refine J_getr (pc := 2) dX10_ring_2 kc10 fl_X10_27 rfl ?_
  refine J_getpN (pc := 5) dX10_ring_5 kc0 fl_X10_54 (by first | exact cvn_p2 (by assumption) | rfl) ?_
  refine J_tr hp2 ?_
  refine J_iload_n (pc := 8) dX10_ring_8 rfl ?_
  refine J_cnr (pc := 9) (N := mX1_hasSister) dX10_ring_9 ml_X10_195 cf_X1_hasSister cv_X1_hasSister (r_X1_hasSister hHL hHC hv) rfl rfl (Nat.le_of_ble_eq_true rfl) (by decide) (rv_of (ci := 1) (by first | exact hou_n (by assumption) | rfl) rfl rfl) ?_
  refine J_t1 (bI_t (in_nI hs' (by omega))) ?_
  refine J_cvv (pc := 12) (N := mX10_needElement) dX10_ring_12 ml_X10_199 cf_X10_needElement cv_X10_needElement r_X10_needElement_ok rfl rfl (Nat.le_of_ble_eq_true rfl) (by decide) (rv_of (ci := 10) rfl rfl rfl) ?_
  refine J_aload_n (pc := 15) dX10_ring_15 rfl ?_
  refine J_getr (pc := 16) dX10_ring_16 kc10 fl_X10_27 rfl ?_
  refine J_getpN (pc := 19) dX10_ring_19 kc0 fl_X10_54 (by first | exact cvn_p2 (by assumption) | rfl) ?_
  refine J_tr hp2 ?_
  refine J_iload_n (pc := 22) dX10_ring_22 rfl ?_
  refine J_cnr (pc := 23) (N := mX1_ringOf) dX10_ring_23 ml_X10_305 cf_X1_ringOf cv_X1_ringOf (r_X1_ringOf hHL hHC hv hs') rfl rfl (Nat.le_of_ble_eq_true rfl) (by decide) (rv_of (ci := 1) (by first | exact hou_n (by assumption) | rfl) rfl rfl) ?_
  exact J_iret (pc := 26) rfl rfl rfl dX10_ring_26 (rq hQ rfl rfl)
theorem r_X10_follows {g : Gp} {S : Sx} {a b m : Nat} {d : HD} {wv : Nat → Nat × Nat} {f : Row} (hX : CX S 3 16 17 a b d m wv f) {s n : Nat} (hs' : s < dNs d) (hn : n ≤ 1000000) : RT g mX10_follows 2 [.ref 0, .int (nI s), .int (nI n)] S (some (.int (ov (itv d.2.1 n s)))) S := by
  refine RT_ofQ ⟨rfl, rfl⟩ (Nat.le_of_ble_eq_true rfl) (fun sz Q hQ => ?_)
  obtain ⟨hCL, hHL, hLL, hp2, hp3, hHC, hv, hW, hLC, hRC⟩ := id hX
  have n1 : dNs d ≤ 8 := hv.1
  have n2 : dNr d ≤ 10 := hv.2.1
  have n3 : dNp d ≤ 8 := hv.2.2.1
  refine J_aload_n (pc := 0) dX10_follows_0 rfl ?_
  refine J_aload_n (pc := 1) dX10_follows_1 rfl ?_
  refine J_getr (pc := 2) dX10_follows_2 kc10 fl_X10_27 rfl ?_
  refine J_getpN (pc := 5) dX10_follows_5 kc0 fl_X10_54 (by first | exact cvn_p2 (by assumption) | rfl) ?_
  refine J_tr hp2 ?_
  refine J_iload_n (pc := 8) dX10_follows_8 rfl ?_
  refine J_cnr (pc := 9) (N := mX1_hasSister) dX10_follows_9 ml_X10_195 cf_X1_hasSister cv_X1_hasSister (r_X1_hasSister hHL hHC hv) rfl rfl (Nat.le_of_ble_eq_true rfl) (by decide) (rv_of (ci := 1) (by first | exact hou_n (by assumption) | rfl) rfl rfl) ?_
  refine J_t1 (bI_t (in_nI hs' (by omega))) ?_
  refine J_cvv (pc := 12) (N := mX10_needElement) dX10_follows_12 ml_X10_199 cf_X10_needElement cv_X10_needElement r_X10_needElement_ok rfl rfl (Nat.le_of_ble_eq_true rfl) (by decide) (rv_of (ci := 10) rfl rfl rfl) ?_
  refine J_aload_n (pc := 15) dX10_follows_15 rfl ?_
  refine J_iload_n (pc := 16) dX10_follows_16 rfl ?_
  refine J_iconst (pc := 17) (v := 0) dX10_follows_17 (by decide) ?_
  refine J_ldcw (pc := 18) (v := 1000000) dX10_follows_18 kt_X10_308 ?_
  refine J_csr (pc := 21) (N := mX10_isWithin) dX10_follows_21 ml_X10_177 cf_X10_isWithin cs_X10_isWithin r_X10_isWithin rfl rfl (Nat.le_of_ble_eq_true rfl) (by decide) ?_
  refine J_t1 (bI_t (show 0 ≤ nI n ∧ nI n ≤ 1000000 from ⟨nI_pos' (by omega), nI_le (b := 1000000) hn (by decide)⟩)) ?_
  refine J_cvv (pc := 24) (N := mX10_needArgument) dX10_follows_24 ml_X10_181 cf_X10_needArgument cv_X10_needArgument r_X10_needArgument_ok rfl rfl (Nat.le_of_ble_eq_true rfl) (by decide) (rv_of (ci := 10) rfl rfl rfl) ?_
  refine J_iload_n (pc := 27) dX10_follows_27 rfl ?_
  refine J_bipush (pc := 28) (v := 8) dX10_follows_28 (by decide) ?_
  refine J_icmp_gt (pc := 30) (tgt := 46) dX10_follows_30 (by decide) (fun c30 => ?_) (fun c30 => ?_)
  · have h8 : 8 < n := Nat.lt_of_not_le (fun q => Int32.not_le.mpr c30 (nI_le (b := 8) q (by decide)))
    have hadd := itv_add d.2.1 (n - 8) 8 s
    rw [show n - 8 + 8 = n by omega] at hadd
    refine J_aload_n (pc := 46) dX10_follows_46 rfl ?_
    refine J_getr (pc := 47) dX10_follows_47 kc10 fl_X10_27 rfl ?_
    refine J_getpN (pc := 50) dX10_follows_50 kc0 fl_X10_54 (by first | exact cvn_p2 (by assumption) | rfl) ?_
    refine J_tr hp2 ?_
    refine J_iload_n (pc := 53) dX10_follows_53 rfl ?_
    refine J_bipush (pc := 54) (v := 8) dX10_follows_54 (by decide) ?_
    refine J_cnr (pc := 56) (N := mX1_walk) dX10_follows_56 ml_X10_309 cf_X1_walk cv_X1_walk (r_X1_walk (k := 8) hHL hHC hv hs' (by omega)) rfl rfl (Nat.le_of_ble_eq_true rfl) (by decide) (rv_of (ci := 1) (by first | exact hou_n (by assumption) | rfl) rfl rfl) ?_
    cases hq : itv d.2.1 8 s with
    | none =>
      have hnn : itv d.2.1 n s = none := by rw [hadd, hq]; rfl
      refine J_istore_n (pc := 59) dX10_follows_59 (by decide) rfl ?_
      refine J_iload_n (pc := 60) dX10_follows_60 rfl ?_
      refine J_iconst (pc := 61) (v := -1) dX10_follows_61 (by decide) ?_
      refine J_icmp_ne (pc := 62) (tgt := 67) dX10_follows_62 (by decide) (fun c62 => absurd rfl c62) (fun c62 => ?_)
      refine J_iconst (pc := 65) (v := -1) dX10_follows_65 (by decide) ?_
      exact J_iret (pc := 66) rfl rfl rfl dX10_follows_66 (rq hQ (by rw [hnn]; rfl) rfl)
    | some q =>
      have qn := itv_lt hv hs' 8 q hq
      obtain ⟨k, hk⟩ := rg8 hv hs' hq
      obtain ⟨k1, k2, k3⟩ := rgv_sp hk
      have hnn : itv d.2.1 n s = itv d.2.1 ((n - 8) % k) q := by rw [hadd, hq]; exact itv_mod k1 (n - 8)
      refine J_istore_n (pc := 59) dX10_follows_59 (by decide) rfl ?_
      refine J_iload_n (pc := 60) dX10_follows_60 rfl ?_
      refine J_iconst (pc := 61) (v := -1) dX10_follows_61 (by decide) ?_
      refine J_icmp_ne (pc := 62) (tgt := 67) dX10_follows_62 (by decide) (fun c62 => ?_) (fun c62 => absurd c62 (show nI q ≠ -1 from fun z => nI_pos (n := q) (by omega) (by rw [z]; decide)))
      refine J_aload_n (pc := 67) dX10_follows_67 rfl ?_
      refine J_getr (pc := 68) dX10_follows_68 kc10 fl_X10_27 rfl ?_
      refine J_getpN (pc := 71) dX10_follows_71 kc0 fl_X10_54 (by first | exact cvn_p2 (by assumption) | rfl) ?_
      refine J_tr hp2 ?_
      refine J_iload_n (pc := 74) dX10_follows_74 rfl ?_
      refine J_cnr (pc := 75) (N := mX1_ringOf) dX10_follows_75 ml_X10_305 cf_X1_ringOf cv_X1_ringOf (r_X1_ringOf hHL hHC hv qn) rfl rfl (Nat.le_of_ble_eq_true rfl) (by decide) (rv_of (ci := 1) (by first | exact hou_n (by assumption) | rfl) rfl rfl) ?_
      rw [hk]
      refine J_istore (pc := 78) dX10_follows_78 (by decide) rfl ?_
      refine J_iload (pc := 80) dX10_follows_80 rfl ?_
      refine J_if_le (pc := 82) (tgt := 106) dX10_follows_82 (by decide) (fun c82 => absurd c82 (nI_nle (by omega) (by omega))) (fun c82 => ?_)
      refine J_aload_n (pc := 85) dX10_follows_85 rfl ?_
      refine J_getr (pc := 86) dX10_follows_86 kc10 fl_X10_27 rfl ?_
      refine J_getpN (pc := 89) dX10_follows_89 kc0 fl_X10_54 (by first | exact cvn_p2 (by assumption) | rfl) ?_
      refine J_tr hp2 ?_
      refine J_iload_n (pc := 92) dX10_follows_92 rfl ?_
      refine J_iload_n (pc := 93) dX10_follows_93 rfl ?_
      refine J_bipush (pc := 94) (v := 8) dX10_follows_94 (by decide) ?_
      refine J_isub (pc := 96) dX10_follows_96 ?_
      refine J_t1 (y := nI (n - 8)) (by rw [show (8 : Int32) = nI 8 from rfl, pk_sub (by omega)]) ?_
      refine J_iload (pc := 97) dX10_follows_97 rfl ?_
      refine J_irem (pc := 99) dX10_follows_99 (nI_ne0 (by omega) (by omega)) ?_
      refine J_t1 (y := nI ((n - 8) % k)) (pk_rem (by omega) (by omega) (by omega)) ?_
      refine J_cnr (pc := 100) (N := mX1_walk) dX10_follows_100 ml_X10_309 cf_X1_walk cv_X1_walk (r_X1_walk hHL hHC hv qn (by have := Nat.mod_lt (n - 8) (show 0 < k by omega); omega)) rfl rfl (Nat.le_of_ble_eq_true rfl) (by decide) (rv_of (ci := 1) (by first | exact hou_n (by assumption) | rfl) rfl rfl) ?_
      refine J_goto (pc := 103) (tgt := 107) dX10_follows_103 (by decide) ?_
      exact J_iret (pc := 107) rfl rfl rfl dX10_follows_107 (rq hQ (by rw [hnn]) rfl)
  · refine J_aload_n (pc := 33) dX10_follows_33 rfl ?_
    refine J_getr (pc := 34) dX10_follows_34 kc10 fl_X10_27 rfl ?_
    refine J_getpN (pc := 37) dX10_follows_37 kc0 fl_X10_54 (by first | exact cvn_p2 (by assumption) | rfl) ?_
    refine J_tr hp2 ?_
    refine J_iload_n (pc := 40) dX10_follows_40 rfl ?_
    refine J_iload_n (pc := 41) dX10_follows_41 rfl ?_
    refine J_cnr (pc := 42) (N := mX1_walk) dX10_follows_42 ml_X10_309 cf_X1_walk cv_X1_walk (r_X1_walk hHL hHC hv hs' (by omega)) rfl rfl (Nat.le_of_ble_eq_true rfl) (by decide) (rv_of (ci := 1) (by first | exact hou_n (by assumption) | rfl) rfl rfl) ?_
    exact J_iret (pc := 45) rfl rfl rfl dX10_follows_45 (rq hQ rfl rfl)
