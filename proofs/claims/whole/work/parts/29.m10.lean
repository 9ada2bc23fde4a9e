def tdm (S : Sx) (ns nr np : Nat) (ow : Nat → Nat) (m : Nat) (wv : Nat → Nat × Nat) (w : Nat) : Int32 := match w with
  | 0 => nI ns
  | 1 => nI nr
  | 2 => nI np
  | 3 => sa S 535 44
  | 4 => msk (fun s => decide (sa S 535 (0 + s) = 0)) ns
  | 5 => msk (fun r => decide (sa S 535 (16 + r) ≠ -1)) nr
  | 6 => mcu S 535 np
  | 7 => msk (fun r => decide (sa S 535 (26 + r) = 1)) nr
  | 8 => sf S 59 35
  | 9 => sf S 59 37
  | _ => sm (mpw S 535 nr ow m wv) nr
theorem r_X11_told_er {g : Gp} {S : Sx} {x : Int32} (hv : ¬ (0 ≤ x ∧ x ≤ 10)) : RT g mX11_told 2 [.ref 59, .int x] S (some (.int 0)) (er S 1 1) := by
  refine RT_ofQ ⟨rfl, rfl⟩ (Nat.le_of_ble_eq_true rfl) (fun sz Q hQ => ?_)
  refine J_aload_n (pc := 0) dX11_told_0 rfl ?_
  refine J_iconst (pc := 1) (v := 0) dX11_told_1 (by decide) ?_
  refine J_puti (pc := 2) dX11_told_2 kc11 fl_X11_103 rfl ⟨rfl, rfl⟩ ?_
  refine J_aload_n (pc := 5) dX11_told_5 rfl ?_
  refine J_iload_n (pc := 6) dX11_told_6 rfl ?_
  refine J_iconst (pc := 7) (v := 0) dX11_told_7 (by decide) ?_
  refine J_bipush (pc := 8) (v := 10) dX11_told_8 (by decide) ?_
  refine J_csr (pc := 10) (N := mX11_in) dX11_told_10 ml_X11_137 cf_X11_in cs_X11_in r_X11_in rfl rfl (Nat.le_of_ble_eq_true rfl) (by decide) ?_
  refine J_ifp_ne (pc := 13) (tgt := 20) dX11_told_13 (by decide) (fun c13 => absurd c13 hv) (fun c13 => ?_)
  refine J_iconst (pc := 16) (v := 1) dX11_told_16 (by decide) ?_
  refine J_goto (pc := 17) (tgt := 21) dX11_told_17 (by decide) ?_
  refine J_iconst (pc := 21) (v := 1) dX11_told_21 (by decide) ?_
  refine J_iconst (pc := 22) (v := 1) dX11_told_22 (by decide) ?_
  refine J_cvr (pc := 23) (N := mX11_bad) dX11_told_23 ml_X11_183 cf_X11_bad cv_X11_bad (r_X11_bad_t (k := 1) rfl (by decide) (by decide) rfl) rfl rfl (Nat.le_of_ble_eq_true rfl) (by decide) (rv_of (ci := 11) rfl rfl rfl) ?_
  refine J_if_eq (pc := 26) (tgt := 31) dX11_told_26 (by decide) (fun c26 => absurd c26 (by decide)) (fun c26 => ?_)
  refine J_iconst (pc := 29) (v := 0) dX11_told_29 (by decide) ?_
  exact J_iret (pc := 30) rfl rfl rfl dX11_told_30 (rq hQ (by first | rfl | simp [bI, *] | simp_all [bI]) rfl)
theorem r_X11_told {g : Gp} {S : Sx} {w : Nat} {ns nr np m : Nat} {ow : Nat → Nat} {wv : Nat → Nat × Nat} (hH : MH S ns nr np ow) (hW : LawW m wv) (hM : LawM S m wv) (hv : w ≤ 10) : RW g mX11_told 7 [.ref 59, .int (nI w)] S (some (.int (tdm S ns nr np ow m wv w))) (S0 S) := by
  refine RW_ofQ ⟨rfl, rfl⟩ (Nat.le_of_ble_eq_true rfl) (fun T sz Q hQ => ?_)
  have hH' := hH
  obtain ⟨e0, e1, e2, l0, l1, l2, ho⟩ := hH'
  refine J_aload_n (pc := 0) dX11_told_0 rfl ?_
  refine J_iconst (pc := 1) (v := 0) dX11_told_1 (by decide) ?_
  refine J_putiw (pc := 2) dX11_told_2 kc11 fl_X11_103 rfl ⟨rfl, rfl⟩ ?_
  refine J_aload_n (pc := 5) dX11_told_5 rfl ?_
  refine J_iload_n (pc := 6) dX11_told_6 rfl ?_
  refine J_iconst (pc := 7) (v := 0) dX11_told_7 (by decide) ?_
  refine J_bipush (pc := 8) (v := 10) dX11_told_8 (by decide) ?_
  refine J_csr (pc := 10) (N := mX11_in) dX11_told_10 ml_X11_137 cf_X11_in cs_X11_in r_X11_in rfl rfl (Nat.le_of_ble_eq_true rfl) (by decide) ?_
  refine J_ifp_ne (pc := 13) (tgt := 20) dX11_told_13 (by decide) (fun c13 => ?_) (fun c13 => absurd (inw 10 rfl hv (by decide)) c13)
  refine J_iconst (pc := 20) (v := 0) dX11_told_20 (by decide) ?_
  refine J_iconst (pc := 21) (v := 1) dX11_told_21 (by decide) ?_
  refine J_iconst (pc := 22) (v := 1) dX11_told_22 (by decide) ?_
  refine J_cvr (pc := 23) (N := mX11_bad) dX11_told_23 ml_X11_183 cf_X11_bad cv_X11_bad (r_X11_bad_f rfl) rfl rfl (Nat.le_of_ble_eq_true rfl) (by decide) (rv_of (ci := 11) rfl rfl rfl) ?_
  refine J_if_eq (pc := 26) (tgt := 31) dX11_told_26 (by decide) (fun c26 => ?_) (fun c26 => absurd rfl c26)
  refine J_iconst (pc := 31) (v := 0) dX11_told_31 (by decide) ?_
  refine J_istore_n (pc := 32) dX11_told_32 (by decide) rfl ?_
  refine J_iconst (pc := 33) (v := 0) dX11_told_33 (by decide) ?_
  refine J_istore_n (pc := 34) dX11_told_34 (by decide) rfl ?_
  refine J_iconst (pc := 35) (v := 0) dX11_told_35 (by decide) ?_
  refine J_istore (pc := 36) dX11_told_36 (by decide) rfl ?_
  refine J_iconst (pc := 38) (v := 0) dX11_told_38 (by decide) ?_
  refine J_istore (pc := 39) dX11_told_39 (by decide) rfl ?_
  show J g mX11_told 7 [] 41 [some (.ref 59), some (.int (nI w)), some (.int 0), some (.int 0), some (.int 0), some (.int 0)] [] (hs (w1 (S0 S) T)) sz 0 0 Q
  refine dn_ind (n := ns) (P := fun i => ∀ T, J g mX11_told 7 [] 41 [some (.ref 59), some (.int (nI w)), some (.int (msk (fun s => decide (sa S 535 (0 + s) = 0)) i)), some (.int 0), some (.int 0), some (.int (ix i))] [] (hs (w1 (S0 S) T)) sz 0 0 Q) ?_ (fun i hi ih => ?_) 0 (Nat.zero_le _) _
  · intro T
    refine J_iload (pc := 41) dX11_told_41 rfl ?_
    refine J_aload_n (pc := 43) dX11_told_43 rfl ?_
    refine J_getr (pc := 44) dX11_told_44 kc11 fl_X11_23 rfl ?_
    refine J_iconst (pc := 47) (v := 0) dX11_told_47 (by decide) ?_
    refine J_il (pc := 48) dX11_told_48 (by first | rfl | assumption) (rfl : (0 : Int32) = nI 0) ⟨by first | decide | omega, by decide⟩ ?_
    refine J_icmp_ge (pc := 49) (tgt := 81) dX11_told_49 (by decide) (fun c49 => ?_) (fun c49 => absurd (ix_ge e0) c49)
    refine J_iconst (pc := 81) (v := 0) dX11_told_81 (by decide) ?_
    refine J_istore (pc := 82) dX11_told_82 (by decide) rfl ?_
    show J g mX11_told 7 [] 84 [some (.ref 59), some (.int (nI w)), some (.int (msk (fun s => decide (sa S 535 (0 + s) = 0)) ns)), some (.int 0), some (.int 0), some (.int 0)] [] (hs (w1 (S0 S) T)) sz 0 0 Q
    refine dn_ind (n := nr) (P := fun i => ∀ T, J g mX11_told 7 [] 84 [some (.ref 59), some (.int (nI w)), some (.int (msk (fun s => decide (sa S 535 (0 + s) = 0)) ns)), some (.int (msk (fun r => decide (sa S 535 (16 + r) ≠ -1)) i)), some (.int (msk (fun r => decide (sa S 535 (26 + r) = 1)) i)), some (.int (ix i))] [] (hs (w1 (S0 S) T)) sz 0 0 Q) ?_ (fun i hi ih => ?_) 0 (Nat.zero_le _) _
    · intro T
      refine J_iload (pc := 84) dX11_told_84 rfl ?_
      refine J_aload_n (pc := 86) dX11_told_86 rfl ?_
      refine J_getr (pc := 87) dX11_told_87 kc11 fl_X11_23 rfl ?_
      refine J_iconst (pc := 90) (v := 1) dX11_told_90 (by decide) ?_
      refine J_il (pc := 91) dX11_told_91 (by first | rfl | assumption) (rfl : (1 : Int32) = nI 1) ⟨by first | decide | omega, by decide⟩ ?_
      refine J_icmp_ge (pc := 92) (tgt := 151) dX11_told_92 (by decide) (fun c92 => ?_) (fun c92 => absurd (ix_ge e1) c92)
      obtain rfl | rfl | rfl | rfl | rfl | rfl | rfl | rfl | rfl | rfl | rfl : w = 0 ∨ w = 1 ∨ w = 2 ∨ w = 3 ∨ w = 4 ∨ w = 5 ∨ w = 6 ∨ w = 7 ∨ w = 8 ∨ w = 9 ∨ w = 10 := by omega
      · refine J_iload_n (pc := 151) dX11_told_151 rfl ?_
        refine J_tableIn (pc := 152) (off := 56) (tgt := 208) dX11_told_152 (by decide) (by decide) (by decide) (by decide) ?_
        refine J_aload_n (pc := 208) dX11_told_208 rfl ?_
        refine J_getr (pc := 209) dX11_told_209 kc11 fl_X11_23 rfl ?_
        refine J_iload_n (pc := 212) dX11_told_212 rfl ?_
        refine J_il (pc := 213) dX11_told_213 (by first | rfl | assumption) rfl ⟨by decide, by decide⟩ ?_
        exact J_iret (pc := 214) rfl rfl rfl dX11_told_214 (rqw hQ e0 rfl)
      · refine J_iload_n (pc := 151) dX11_told_151 rfl ?_
        refine J_tableIn (pc := 152) (off := 56) (tgt := 208) dX11_told_152 (by decide) (by decide) (by decide) (by decide) ?_
        refine J_aload_n (pc := 208) dX11_told_208 rfl ?_
        refine J_getr (pc := 209) dX11_told_209 kc11 fl_X11_23 rfl ?_
        refine J_iload_n (pc := 212) dX11_told_212 rfl ?_
        refine J_il (pc := 213) dX11_told_213 (by first | rfl | assumption) rfl ⟨by decide, by decide⟩ ?_
        exact J_iret (pc := 214) rfl rfl rfl dX11_told_214 (rqw hQ e1 rfl)
      · refine J_iload_n (pc := 151) dX11_told_151 rfl ?_
        refine J_tableIn (pc := 152) (off := 56) (tgt := 208) dX11_told_152 (by decide) (by decide) (by decide) (by decide) ?_
        refine J_aload_n (pc := 208) dX11_told_208 rfl ?_
        refine J_getr (pc := 209) dX11_told_209 kc11 fl_X11_23 rfl ?_
        refine J_iload_n (pc := 212) dX11_told_212 rfl ?_
        refine J_il (pc := 213) dX11_told_213 (by first | rfl | assumption) rfl ⟨by decide, by decide⟩ ?_
        exact J_iret (pc := 214) rfl rfl rfl dX11_told_214 (rqw hQ e2 rfl)
      · refine J_iload_n (pc := 151) dX11_told_151 rfl ?_
        refine J_tableIn (pc := 152) (off := 63) (tgt := 215) dX11_told_152 (by decide) (by decide) (by decide) (by decide) ?_
        refine J_aload_n (pc := 215) dX11_told_215 rfl ?_
        refine J_getr (pc := 216) dX11_told_216 kc11 fl_X11_73 rfl ?_
        refine J_bipush (pc := 219) (v := 44) dX11_told_219 (by decide) ?_
        refine J_il (pc := 221) dX11_told_221 (by first | rfl | assumption) (rfl : (44 : Int32) = nI 44) ⟨by first | decide | omega, by decide⟩ ?_
        exact J_iret (pc := 222) rfl rfl rfl dX11_told_222 (rqw hQ (by first | rfl | simp [bI, *] | simp_all [bI]) rfl)
      · refine J_iload_n (pc := 151) dX11_told_151 rfl ?_
        refine J_tableIn (pc := 152) (off := 71) (tgt := 223) dX11_told_152 (by decide) (by decide) (by decide) (by decide) ?_
        refine J_iload_n (pc := 223) dX11_told_223 rfl ?_
        exact J_iret (pc := 224) rfl rfl rfl dX11_told_224 (rqw hQ (by first | rfl | simp [bI, *] | simp_all [bI]) rfl)
      · refine J_iload_n (pc := 151) dX11_told_151 rfl ?_
        refine J_tableIn (pc := 152) (off := 73) (tgt := 225) dX11_told_152 (by decide) (by decide) (by decide) (by decide) ?_
        refine J_iload_n (pc := 225) dX11_told_225 rfl ?_
        exact J_iret (pc := 226) rfl rfl rfl dX11_told_226 (rqw hQ (by first | rfl | simp [bI, *] | simp_all [bI]) rfl)
      · refine J_iload_n (pc := 151) dX11_told_151 rfl ?_
        refine J_tableIn (pc := 152) (off := 75) (tgt := 227) dX11_told_152 (by decide) (by decide) (by decide) (by decide) ?_
        refine J_aload_n (pc := 227) dX11_told_227 rfl ?_
        refine J_aload_n (pc := 228) dX11_told_228 rfl ?_
        refine J_getr (pc := 229) dX11_told_229 kc11 fl_X11_73 rfl ?_
        refine J_cvr (pc := 232) (N := mX11_curedIn) dX11_told_232 ml_X11_329 cf_X11_curedIn cv_X11_curedIn (r_X11_curedIn (S := w1 (S0 S) T) row535 hH) rfl rfl (Nat.le_of_ble_eq_true rfl) (by decide) (rv_of (ci := 11) rfl rfl rfl) ?_
        exact J_iret (pc := 235) rfl rfl rfl dX11_told_235 (rqw hQ (by first | rfl | simp [bI, *] | simp_all [bI]) rfl)
      · refine J_iload_n (pc := 151) dX11_told_151 rfl ?_
        refine J_tableIn (pc := 152) (off := 84) (tgt := 236) dX11_told_152 (by decide) (by decide) (by decide) (by decide) ?_
        refine J_iload (pc := 236) dX11_told_236 rfl ?_
        exact J_iret (pc := 238) rfl rfl rfl dX11_told_238 (rqw hQ (by first | rfl | simp [bI, *] | simp_all [bI]) rfl)
      · refine J_iload_n (pc := 151) dX11_told_151 rfl ?_
        refine J_tableIn (pc := 152) (off := 87) (tgt := 239) dX11_told_152 (by decide) (by decide) (by decide) (by decide) ?_
        refine J_aload_n (pc := 239) dX11_told_239 rfl ?_
        refine J_geti (pc := 240) dX11_told_240 kc11 fl_X11_203 rfl ?_
        exact J_iret (pc := 243) rfl rfl rfl dX11_told_243 (rqw hQ (by first | rfl | simp [bI, *] | simp_all [bI]) rfl)
      · refine J_iload_n (pc := 151) dX11_told_151 rfl ?_
        refine J_tableIn (pc := 152) (off := 92) (tgt := 244) dX11_told_152 (by decide) (by decide) (by decide) (by decide) ?_
        refine J_aload_n (pc := 244) dX11_told_244 rfl ?_
        refine J_geti (pc := 245) dX11_told_245 kc11 fl_X11_209 rfl ?_
        exact J_iret (pc := 248) rfl rfl rfl dX11_told_248 (rqw hQ (by first | rfl | simp [bI, *] | simp_all [bI]) rfl)
      · refine J_iload_n (pc := 151) dX11_told_151 rfl ?_
        refine J_tableOut (pc := 152) (tgt := 249) dX11_told_152 (by decide) (by decide) ?_
        refine J_aload_n (pc := 249) dX11_told_249 rfl ?_
        refine J_aload_n (pc := 250) dX11_told_250 rfl ?_
        refine J_getr (pc := 251) dX11_told_251 kc11 fl_X11_73 rfl ?_
        refine J_cvw (pc := 254) (N := mX11_powersIn) dX11_told_254 ml_X11_333 cf_X11_powersIn cv_X11_powersIn (r_X11_powersIn (S := S0 S) row535 hH hW hM) rfl rfl (Nat.le_of_ble_eq_true rfl) (by decide) (rv_of (ci := 11) rfl rfl rfl) ?_
        intro T
        exact J_iret (pc := 257) rfl rfl rfl dX11_told_257 (rqw hQ (by first | rfl | simp [bI, *] | simp_all [bI]) rfl)
    · intro T
      refine J_iload (pc := 84) dX11_told_84 rfl ?_
      refine J_aload_n (pc := 86) dX11_told_86 rfl ?_
      refine J_getr (pc := 87) dX11_told_87 kc11 fl_X11_23 rfl ?_
      refine J_iconst (pc := 90) (v := 1) dX11_told_90 (by decide) ?_
      refine J_il (pc := 91) dX11_told_91 (by first | rfl | assumption) (rfl : (1 : Int32) = nI 1) ⟨by first | decide | omega, by decide⟩ ?_
      refine J_icmp_ge (pc := 92) (tgt := 151) dX11_told_92 (by decide) (fun c92 => absurd c92 (ix_lt e1 hi (by omega))) (fun c92 => ?_)
      refine J_iload_n (pc := 95) dX11_told_95 rfl ?_
      refine J_aload_n (pc := 96) dX11_told_96 rfl ?_
      refine J_getr (pc := 97) dX11_told_97 kc11 fl_X11_73 rfl ?_
      refine J_iload (pc := 100) dX11_told_100 rfl ?_
      refine J_t1 (ix_nI i) ?_
      refine J_csr (pc := 102) (N := mX11_isKept) dX11_told_102 ml_X11_267 cf_X11_isKept cs_X11_isKept (r_X11_isKept (S := w1 (S0 S) T) (r := i) row535 (by omega)) rfl rfl (Nat.le_of_ble_eq_true rfl) (by decide) ?_
      refine J_mid1 116 (if sa S 535 (16 + i) ≠ -1 then 1 <<< (ix i &&& 31) else 0) ?_ (fun hj105 => ?_)
      · refine J_ior (pc := 116) dX11_told_116 ?_
        refine J_t1 (y := msk (fun r => decide (sa S 535 (16 + r) ≠ -1)) (i + 1)) (by by_cases q : sa S 535 (16 + i) ≠ -1; (rw [if_pos q]; exact msk_t (decide_eq_true q)); (rw [if_neg q]; exact msk_f (fun z => q (of_decide_eq_true z)))) ?_
        refine J_istore_n (pc := 117) dX11_told_117 (by decide) rfl ?_
        refine J_iload (pc := 118) dX11_told_118 rfl ?_
        refine J_aload_n (pc := 120) dX11_told_120 rfl ?_
        refine J_getr (pc := 121) dX11_told_121 kc11 fl_X11_73 rfl ?_
        refine J_bipush (pc := 124) (v := 26) dX11_told_124 (by decide) ?_
        refine J_iload (pc := 126) dX11_told_126 rfl ?_
        refine J_iadd (pc := 128) dX11_told_128 ?_
        refine J_il (pc := 129) dX11_told_129 (by first | rfl | assumption) (by first | exact nI_add 26 _ | (rw [ix_nI]; exact nI_add 26 _)) ⟨by first | decide | omega, by decide⟩ ?_
        refine J_iconst (pc := 130) (v := 1) dX11_told_130 (by decide) ?_
        refine J_icmp_ne (pc := 131) (tgt := 141) dX11_told_131 (by decide) (fun c131 => ?_) (fun c131 => ?_)
        · refine J_iconst (pc := 141) (v := 0) dX11_told_141 (by decide) ?_
          refine J_ior (pc := 142) dX11_told_142 ?_
          refine J_t1 (y := msk (fun r => decide (sa S 535 (26 + r) = 1)) (i + 1)) (by first | exact msk_t (decide_eq_true c131) | exact msk_f (fun z => c131 (of_decide_eq_true z))) ?_
          refine J_istore (pc := 143) dX11_told_143 (by decide) rfl ?_
          refine J_iinc (pc := 145) (v := 1) dX11_told_145 rfl (by decide) rfl ?_
          refine J_goto (pc := 148) (tgt := 84) dX11_told_148 (by decide) ?_
          exact ih T
        · refine J_iconst (pc := 134) (v := 1) dX11_told_134 (by decide) ?_
          refine J_iload (pc := 135) dX11_told_135 rfl ?_
          refine J_ishl (pc := 137) dX11_told_137 ?_
          refine J_goto (pc := 138) (tgt := 142) dX11_told_138 (by decide) ?_
          refine J_ior (pc := 142) dX11_told_142 ?_
          refine J_t1 (y := msk (fun r => decide (sa S 535 (26 + r) = 1)) (i + 1)) (by first | exact msk_t (decide_eq_true c131) | exact msk_f (fun z => c131 (of_decide_eq_true z))) ?_
          refine J_istore (pc := 143) dX11_told_143 (by decide) rfl ?_
          refine J_iinc (pc := 145) (v := 1) dX11_told_145 rfl (by decide) rfl ?_
          refine J_goto (pc := 148) (tgt := 84) dX11_told_148 (by decide) ?_
          exact ih T
      · refine J_ifp_eq (pc := 105) (tgt := 115) dX11_told_105 (by decide) (fun c105 => ?_) (fun c105 => ?_)
        · refine J_iconst (pc := 115) (v := 0) dX11_told_115 (by decide) ?_
          exact hj105 _ (by first | exact (if_pos c105).symm | exact (if_neg c105).symm)
        · refine J_iconst (pc := 108) (v := 1) dX11_told_108 (by decide) ?_
          refine J_iload (pc := 109) dX11_told_109 rfl ?_
          refine J_ishl (pc := 111) dX11_told_111 ?_
          refine J_goto (pc := 112) (tgt := 116) dX11_told_112 (by decide) ?_
          exact hj105 _ (by first | exact (if_pos c105).symm | exact (if_neg c105).symm)
  · intro T
    refine J_iload (pc := 41) dX11_told_41 rfl ?_
    refine J_aload_n (pc := 43) dX11_told_43 rfl ?_
    refine J_getr (pc := 44) dX11_told_44 kc11 fl_X11_23 rfl ?_
    refine J_iconst (pc := 47) (v := 0) dX11_told_47 (by decide) ?_
    refine J_il (pc := 48) dX11_told_48 (by first | rfl | assumption) (rfl : (0 : Int32) = nI 0) ⟨by first | decide | omega, by decide⟩ ?_
    refine J_icmp_ge (pc := 49) (tgt := 81) dX11_told_49 (by decide) (fun c49 => absurd c49 (ix_lt e0 hi (by omega))) (fun c49 => ?_)
    refine J_iload_n (pc := 52) dX11_told_52 rfl ?_
    refine J_aload_n (pc := 53) dX11_told_53 rfl ?_
    refine J_getr (pc := 54) dX11_told_54 kc11 fl_X11_73 rfl ?_
    refine J_iconst (pc := 57) (v := 0) dX11_told_57 (by decide) ?_
    refine J_iload (pc := 58) dX11_told_58 rfl ?_
    refine J_iadd (pc := 60) dX11_told_60 ?_
    refine J_il (pc := 61) dX11_told_61 (by first | rfl | assumption) (by first | exact nI_add 0 _ | (rw [ix_nI]; exact nI_add 0 _)) ⟨by first | decide | omega, by decide⟩ ?_
    refine J_if_ne (pc := 62) (tgt := 72) dX11_told_62 (by decide) (fun c62 => ?_) (fun c62 => ?_)
    · refine J_iconst (pc := 72) (v := 0) dX11_told_72 (by decide) ?_
      refine J_ior (pc := 73) dX11_told_73 ?_
      refine J_t1 (y := msk (fun s => decide (sa S 535 (0 + s) = 0)) (i + 1)) (by first | exact msk_t (decide_eq_true c62) | exact msk_f (fun z => c62 (of_decide_eq_true z))) ?_
      refine J_istore_n (pc := 74) dX11_told_74 (by decide) rfl ?_
      refine J_iinc (pc := 75) (v := 1) dX11_told_75 rfl (by decide) rfl ?_
      refine J_goto (pc := 78) (tgt := 41) dX11_told_78 (by decide) ?_
      exact ih T
    · refine J_iconst (pc := 65) (v := 1) dX11_told_65 (by decide) ?_
      refine J_iload (pc := 66) dX11_told_66 rfl ?_
      refine J_ishl (pc := 68) dX11_told_68 ?_
      refine J_goto (pc := 69) (tgt := 73) dX11_told_69 (by decide) ?_
      refine J_ior (pc := 73) dX11_told_73 ?_
      refine J_t1 (y := msk (fun s => decide (sa S 535 (0 + s) = 0)) (i + 1)) (by first | exact msk_t (decide_eq_true c62) | exact msk_f (fun z => c62 (of_decide_eq_true z))) ?_
      refine J_istore_n (pc := 74) dX11_told_74 (by decide) rfl ?_
      refine J_iinc (pc := 75) (v := 1) dX11_told_75 rfl (by decide) rfl ?_
      refine J_goto (pc := 78) (tgt := 41) dX11_told_78 (by decide) ?_
      exact ih T
def ssm (S : Sx) (nr s : Nat) (w : Nat) : Int32 := match w with
  | 0 => sa S 65 s
  | 1 => sa S 535 (8 + s)
  | 2 => msk (fun r => decide (sa S (80 + r) 0 = nI s)) nr
  | 3 => mko S 535 (nI s) nr
  | _ => sa S 67 s
theorem r_X11_sister_e1 {g : Gp} {S : Sx} {x y : Int32} {ns nr np : Nat} {ow : Nat → Nat} (hH : MH S ns nr np ow) (hv : ¬ (0 ≤ x ∧ x ≤ nI ns - 1)) : RT g mX11_sister 2 [.ref 59, .int x, .int y] S (some (.int 0)) (er S 1 0) := by
  refine RT_ofQ ⟨rfl, rfl⟩ (Nat.le_of_ble_eq_true rfl) (fun sz Q hQ => ?_)
  refine J_aload_n (pc := 0) dX11_sister_0 rfl ?_
  refine J_iconst (pc := 1) (v := 0) dX11_sister_1 (by decide) ?_
  refine J_puti (pc := 2) dX11_sister_2 kc11 fl_X11_103 rfl ⟨rfl, rfl⟩ ?_
  refine J_aload_n (pc := 5) dX11_sister_5 rfl ?_
  refine J_aload_n (pc := 6) dX11_sister_6 rfl ?_
  refine J_iload_n (pc := 7) dX11_sister_7 rfl ?_
  refine J_cvr (pc := 8) (N := mX11_isSister) dX11_sister_8 ml_X11_336 cf_X11_isSister cv_X11_isSister (r_X11_isSister (S := S0 S) hH) rfl rfl (Nat.le_of_ble_eq_true rfl) (by decide) (rv_of (ci := 11) rfl rfl rfl) ?_
  refine J_ifp_ne (pc := 11) (tgt := 18) dX11_sister_11 (by decide) (fun c11 => absurd c11 hv) (fun c11 => ?_)
  refine J_iconst (pc := 14) (v := 1) dX11_sister_14 (by decide) ?_
  refine J_goto (pc := 15) (tgt := 19) dX11_sister_15 (by decide) ?_
  refine J_iconst (pc := 19) (v := 1) dX11_sister_19 (by decide) ?_
  refine J_iconst (pc := 20) (v := 0) dX11_sister_20 (by decide) ?_
  refine J_cvr (pc := 21) (N := mX11_bad) dX11_sister_21 ml_X11_183 cf_X11_bad cv_X11_bad (r_X11_bad_t (k := 0) rfl (by decide) (by decide) rfl) rfl rfl (Nat.le_of_ble_eq_true rfl) (by decide) (rv_of (ci := 11) rfl rfl rfl) ?_
  refine J_if_ne (pc := 24) (tgt := 50) dX11_sister_24 (by decide) (fun c24 => ?_) (fun c24 => absurd c24 (by decide))
  refine J_iconst (pc := 50) (v := 0) dX11_sister_50 (by decide) ?_
  exact J_iret (pc := 51) rfl rfl rfl dX11_sister_51 (rq hQ (by first | rfl | simp [bI, *] | simp_all [bI]) rfl)
theorem r_X11_sister_e2 {g : Gp} {S : Sx} {x y : Int32} {ns nr np : Nat} {ow : Nat → Nat} (hH : MH S ns nr np ow) (hv : 0 ≤ x ∧ x ≤ nI ns - 1) (hv2 : ¬ (0 ≤ y ∧ y ≤ 4)) : RT g mX11_sister 2 [.ref 59, .int x, .int y] S (some (.int 0)) (er S 2 1) := by
  refine RT_ofQ ⟨rfl, rfl⟩ (Nat.le_of_ble_eq_true rfl) (fun sz Q hQ => ?_)
  refine J_aload_n (pc := 0) dX11_sister_0 rfl ?_
  refine J_iconst (pc := 1) (v := 0) dX11_sister_1 (by decide) ?_
  refine J_puti (pc := 2) dX11_sister_2 kc11 fl_X11_103 rfl ⟨rfl, rfl⟩ ?_
  refine J_aload_n (pc := 5) dX11_sister_5 rfl ?_
  refine J_aload_n (pc := 6) dX11_sister_6 rfl ?_
  refine J_iload_n (pc := 7) dX11_sister_7 rfl ?_
  refine J_cvr (pc := 8) (N := mX11_isSister) dX11_sister_8 ml_X11_336 cf_X11_isSister cv_X11_isSister (r_X11_isSister (S := S0 S) hH) rfl rfl (Nat.le_of_ble_eq_true rfl) (by decide) (rv_of (ci := 11) rfl rfl rfl) ?_
  refine J_ifp_ne (pc := 11) (tgt := 18) dX11_sister_11 (by decide) (fun c11 => ?_) (fun c11 => absurd hv c11)
  refine J_iconst (pc := 18) (v := 0) dX11_sister_18 (by decide) ?_
  refine J_iconst (pc := 19) (v := 1) dX11_sister_19 (by decide) ?_
  refine J_iconst (pc := 20) (v := 0) dX11_sister_20 (by decide) ?_
  refine J_cvr (pc := 21) (N := mX11_bad) dX11_sister_21 ml_X11_183 cf_X11_bad cv_X11_bad (r_X11_bad_f rfl) rfl rfl (Nat.le_of_ble_eq_true rfl) (by decide) (rv_of (ci := 11) rfl rfl rfl) ?_
  refine J_if_ne (pc := 24) (tgt := 50) dX11_sister_24 (by decide) (fun c24 => absurd rfl c24) (fun c24 => ?_)
  refine J_aload_n (pc := 27) dX11_sister_27 rfl ?_
  refine J_iload_n (pc := 28) dX11_sister_28 rfl ?_
  refine J_iconst (pc := 29) (v := 0) dX11_sister_29 (by decide) ?_
  refine J_iconst (pc := 30) (v := 4) dX11_sister_30 (by decide) ?_
  refine J_csr (pc := 31) (N := mX11_in) dX11_sister_31 ml_X11_137 cf_X11_in cs_X11_in r_X11_in rfl rfl (Nat.le_of_ble_eq_true rfl) (by decide) ?_
  refine J_ifp_ne (pc := 34) (tgt := 41) dX11_sister_34 (by decide) (fun c34 => absurd c34 hv2) (fun c34 => ?_)
  refine J_iconst (pc := 37) (v := 1) dX11_sister_37 (by decide) ?_
  refine J_goto (pc := 38) (tgt := 42) dX11_sister_38 (by decide) ?_
  refine J_iconst (pc := 42) (v := 2) dX11_sister_42 (by decide) ?_
  refine J_iconst (pc := 43) (v := 1) dX11_sister_43 (by decide) ?_
  refine J_cvr (pc := 44) (N := mX11_bad) dX11_sister_44 ml_X11_183 cf_X11_bad cv_X11_bad (r_X11_bad_t (k := 1) rfl (by decide) (by decide) rfl) rfl rfl (Nat.le_of_ble_eq_true rfl) (by decide) (rv_of (ci := 11) rfl rfl rfl) ?_
  refine J_if_eq (pc := 47) (tgt := 52) dX11_sister_47 (by decide) (fun c47 => absurd c47 (by decide)) (fun c47 => ?_)
  refine J_iconst (pc := 50) (v := 0) dX11_sister_50 (by decide) ?_
  exact J_iret (pc := 51) rfl rfl rfl dX11_sister_51 (rq hQ (by first | rfl | simp [bI, *] | simp_all [bI]) rfl)
theorem r_X11_sister {g : Gp} {S : Sx} {s w : Nat} {ns nr np : Nat} {ow : Nat → Nat} (hH : MH S ns nr np ow) (hs' : s < ns) (hv : w ≤ 4) : RT g mX11_sister 2 [.ref 59, .int (nI s), .int (nI w)] S (some (.int (ssm S nr s w))) (S0 S) := by
  refine RT_ofQ ⟨rfl, rfl⟩ (Nat.le_of_ble_eq_true rfl) (fun sz Q hQ => ?_)
  have hH' := hH
  obtain ⟨e0, e1, e2, l0, l1, l2, ho⟩ := hH'
  refine J_aload_n (pc := 0) dX11_sister_0 rfl ?_
  refine J_iconst (pc := 1) (v := 0) dX11_sister_1 (by decide) ?_
  refine J_puti (pc := 2) dX11_sister_2 kc11 fl_X11_103 rfl ⟨rfl, rfl⟩ ?_
  refine J_aload_n (pc := 5) dX11_sister_5 rfl ?_
  refine J_aload_n (pc := 6) dX11_sister_6 rfl ?_
  refine J_iload_n (pc := 7) dX11_sister_7 rfl ?_
  refine J_cvr (pc := 8) (N := mX11_isSister) dX11_sister_8 ml_X11_336 cf_X11_isSister cv_X11_isSister (r_X11_isSister (S := S0 S) hH) rfl rfl (Nat.le_of_ble_eq_true rfl) (by decide) (rv_of (ci := 11) rfl rfl rfl) ?_
  refine J_ifp_ne (pc := 11) (tgt := 18) dX11_sister_11 (by decide) (fun c11 => ?_) (fun c11 => absurd (inx hs' (by omega)) c11)
  refine J_iconst (pc := 18) (v := 0) dX11_sister_18 (by decide) ?_
  refine J_iconst (pc := 19) (v := 1) dX11_sister_19 (by decide) ?_
  refine J_iconst (pc := 20) (v := 0) dX11_sister_20 (by decide) ?_
  refine J_cvr (pc := 21) (N := mX11_bad) dX11_sister_21 ml_X11_183 cf_X11_bad cv_X11_bad (r_X11_bad_f rfl) rfl rfl (Nat.le_of_ble_eq_true rfl) (by decide) (rv_of (ci := 11) rfl rfl rfl) ?_
  refine J_if_ne (pc := 24) (tgt := 50) dX11_sister_24 (by decide) (fun c24 => absurd rfl c24) (fun c24 => ?_)
  refine J_aload_n (pc := 27) dX11_sister_27 rfl ?_
  refine J_iload_n (pc := 28) dX11_sister_28 rfl ?_
  refine J_iconst (pc := 29) (v := 0) dX11_sister_29 (by decide) ?_
  refine J_iconst (pc := 30) (v := 4) dX11_sister_30 (by decide) ?_
  refine J_csr (pc := 31) (N := mX11_in) dX11_sister_31 ml_X11_137 cf_X11_in cs_X11_in r_X11_in rfl rfl (Nat.le_of_ble_eq_true rfl) (by decide) ?_
  refine J_ifp_ne (pc := 34) (tgt := 41) dX11_sister_34 (by decide) (fun c34 => ?_) (fun c34 => absurd (inw 4 rfl hv (by decide)) c34)
  refine J_iconst (pc := 41) (v := 0) dX11_sister_41 (by decide) ?_
  refine J_iconst (pc := 42) (v := 2) dX11_sister_42 (by decide) ?_
  refine J_iconst (pc := 43) (v := 1) dX11_sister_43 (by decide) ?_
  refine J_cvr (pc := 44) (N := mX11_bad) dX11_sister_44 ml_X11_183 cf_X11_bad cv_X11_bad (r_X11_bad_f rfl) rfl rfl (Nat.le_of_ble_eq_true rfl) (by decide) (rv_of (ci := 11) rfl rfl rfl) ?_
  refine J_if_eq (pc := 47) (tgt := 52) dX11_sister_47 (by decide) (fun c47 => ?_) (fun c47 => absurd rfl c47)
  refine J_iconst (pc := 52) (v := 0) dX11_sister_52 (by decide) ?_
  refine J_istore_n (pc := 53) dX11_sister_53 (by decide) rfl ?_
  refine J_iconst (pc := 54) (v := 0) dX11_sister_54 (by decide) ?_
  refine J_istore (pc := 55) dX11_sister_55 (by decide) rfl ?_
  show J g mX11_sister 2 [] 57 [some (.ref 59), some (.int (nI s)), some (.int (nI w)), some (.int 0), some (.int 0)] [] (hs (S0 S)) sz 0 0 Q
  refine dn_ind (n := nr) (P := fun i => J g mX11_sister 2 [] 57 [some (.ref 59), some (.int (nI s)), some (.int (nI w)), some (.int (msk (fun r => decide (sa S (80 + r) 0 = nI s)) i)), some (.int (ix i))] [] (hs (S0 S)) sz 0 0 Q) ?_ (fun i hi ih => ?_) 0 (Nat.zero_le _)
  · refine J_iload (pc := 57) dX11_sister_57 rfl ?_
    refine J_aload_n (pc := 59) dX11_sister_59 rfl ?_
    refine J_getr (pc := 60) dX11_sister_60 kc11 fl_X11_23 rfl ?_
    refine J_iconst (pc := 63) (v := 1) dX11_sister_63 (by decide) ?_
    refine J_il (pc := 64) dX11_sister_64 (by first | rfl | assumption) (rfl : (1 : Int32) = nI 1) ⟨by first | decide | omega, by decide⟩ ?_
    refine J_icmp_ge (pc := 65) (tgt := 98) dX11_sister_65 (by decide) (fun c65 => ?_) (fun c65 => absurd (ix_ge e1) c65)
    obtain rfl | rfl | rfl | rfl | rfl : w = 0 ∨ w = 1 ∨ w = 2 ∨ w = 3 ∨ w = 4 := by omega
    · refine J_iload_n (pc := 98) dX11_sister_98 rfl ?_
      refine J_tableIn (pc := 99) (off := 29) (tgt := 128) dX11_sister_99 (by decide) (by decide) (by decide) (by decide) ?_
      refine J_aload_n (pc := 128) dX11_sister_128 rfl ?_
      refine J_getr (pc := 129) dX11_sister_129 kc11 fl_X11_29 rfl ?_
      refine J_iload_n (pc := 132) dX11_sister_132 rfl ?_
      refine J_il (pc := 133) dX11_sister_133 (by first | rfl | assumption) rfl ⟨by first | decide | omega, by decide⟩ ?_
      exact J_iret (pc := 134) rfl rfl rfl dX11_sister_134 (rq hQ (by first | rfl | simp [bI, *] | simp_all [bI]) rfl)
    · refine J_iload_n (pc := 98) dX11_sister_98 rfl ?_
      refine J_tableIn (pc := 99) (off := 36) (tgt := 135) dX11_sister_99 (by decide) (by decide) (by decide) (by decide) ?_
      refine J_aload_n (pc := 135) dX11_sister_135 rfl ?_
      refine J_getr (pc := 136) dX11_sister_136 kc11 fl_X11_73 rfl ?_
      refine J_bipush (pc := 139) (v := 8) dX11_sister_139 (by decide) ?_
      refine J_iload_n (pc := 141) dX11_sister_141 rfl ?_
      refine J_iadd (pc := 142) dX11_sister_142 ?_
      refine J_il (pc := 143) dX11_sister_143 (by first | rfl | assumption) (by first | exact nI_add 8 _ | (rw [ix_nI]; exact nI_add 8 _)) ⟨by first | decide | omega, by decide⟩ ?_
      exact J_iret (pc := 144) rfl rfl rfl dX11_sister_144 (rq hQ (by first | rfl | simp [bI, *] | simp_all [bI]) rfl)
    · refine J_iload_n (pc := 98) dX11_sister_98 rfl ?_
      refine J_tableIn (pc := 99) (off := 46) (tgt := 145) dX11_sister_99 (by decide) (by decide) (by decide) (by decide) ?_
      refine J_iload_n (pc := 145) dX11_sister_145 rfl ?_
      exact J_iret (pc := 146) rfl rfl rfl dX11_sister_146 (rq hQ (by first | rfl | simp [bI, *] | simp_all [bI]) rfl)
    · refine J_iload_n (pc := 98) dX11_sister_98 rfl ?_
      refine J_tableIn (pc := 99) (off := 48) (tgt := 147) dX11_sister_99 (by decide) (by decide) (by decide) (by decide) ?_
      refine J_aload_n (pc := 147) dX11_sister_147 rfl ?_
      refine J_aload_n (pc := 148) dX11_sister_148 rfl ?_
      refine J_getr (pc := 149) dX11_sister_149 kc11 fl_X11_73 rfl ?_
      refine J_iload_n (pc := 152) dX11_sister_152 rfl ?_
      refine J_cvr (pc := 153) (N := mX11_keptOf) dX11_sister_153 ml_X11_274 cf_X11_keptOf cv_X11_keptOf (r_X11_keptOf (S := S0 S) row535 hH) rfl rfl (Nat.le_of_ble_eq_true rfl) (by decide) (rv_of (ci := 11) rfl rfl rfl) ?_
      exact J_iret (pc := 156) rfl rfl rfl dX11_sister_156 (rq hQ (by first | rfl | simp [bI, *] | simp_all [bI]) rfl)
    · refine J_iload_n (pc := 98) dX11_sister_98 rfl ?_
      refine J_tableOut (pc := 99) (tgt := 157) dX11_sister_99 (by decide) (by decide) ?_
      refine J_aload_n (pc := 157) dX11_sister_157 rfl ?_
      refine J_getr (pc := 158) dX11_sister_158 kc11 fl_X11_35 rfl ?_
      refine J_iload_n (pc := 161) dX11_sister_161 rfl ?_
      refine J_il (pc := 162) dX11_sister_162 (by first | rfl | assumption) rfl ⟨by first | decide | omega, by decide⟩ ?_
      exact J_iret (pc := 163) rfl rfl rfl dX11_sister_163 (rq hQ (by first | rfl | simp [bI, *] | simp_all [bI]) rfl)
  · refine J_iload (pc := 57) dX11_sister_57 rfl ?_
    refine J_aload_n (pc := 59) dX11_sister_59 rfl ?_
    refine J_getr (pc := 60) dX11_sister_60 kc11 fl_X11_23 rfl ?_
    refine J_iconst (pc := 63) (v := 1) dX11_sister_63 (by decide) ?_
    refine J_il (pc := 64) dX11_sister_64 (by first | rfl | assumption) (rfl : (1 : Int32) = nI 1) ⟨by first | decide | omega, by decide⟩ ?_
    refine J_icmp_ge (pc := 65) (tgt := 98) dX11_sister_65 (by decide) (fun c65 => absurd c65 (ix_lt e1 hi (by omega))) (fun c65 => ?_)
    refine J_iload_n (pc := 68) dX11_sister_68 rfl ?_
    refine J_aload_n (pc := 69) dX11_sister_69 rfl ?_
    refine J_getr (pc := 70) dX11_sister_70 kc11 fl_X11_43 rfl ?_
    refine J_iload (pc := 73) dX11_sister_73 rfl ?_
    refine J_ar1 (pc := 75) dX11_sister_75 rfl (by first | with_reducible rfl | assumption | exact ix_nI _ | rfl) ⟨by first | decide | omega, by decide⟩ ?_
    refine J_iconst (pc := 76) (v := 0) dX11_sister_76 (by decide) ?_
    refine J_il (pc := 77) dX11_sister_77 (lay_relic (by omega)) (rfl : (0 : Int32) = nI 0) ⟨by first | decide | omega, by decide⟩ ?_
    refine J_iload_n (pc := 78) dX11_sister_78 rfl ?_
    refine J_icmp_ne (pc := 79) (tgt := 89) dX11_sister_79 (by decide) (fun c79 => ?_) (fun c79 => ?_)
    · refine J_iconst (pc := 89) (v := 0) dX11_sister_89 (by decide) ?_
      refine J_ior (pc := 90) dX11_sister_90 ?_
      refine J_t1 (y := msk (fun r => decide (sa S (80 + r) 0 = nI s)) (i + 1)) (by first | exact msk_t (decide_eq_true c79) | exact msk_f (fun z => c79 (of_decide_eq_true z))) ?_
      refine J_istore_n (pc := 91) dX11_sister_91 (by decide) rfl ?_
      refine J_iinc (pc := 92) (v := 1) dX11_sister_92 rfl (by decide) rfl ?_
      refine J_goto (pc := 95) (tgt := 57) dX11_sister_95 (by decide) ?_
      exact ih
    · refine J_iconst (pc := 82) (v := 1) dX11_sister_82 (by decide) ?_
      refine J_iload (pc := 83) dX11_sister_83 rfl ?_
      refine J_ishl (pc := 85) dX11_sister_85 ?_
      refine J_goto (pc := 86) (tgt := 90) dX11_sister_86 (by decide) ?_
      refine J_ior (pc := 90) dX11_sister_90 ?_
      refine J_t1 (y := msk (fun r => decide (sa S (80 + r) 0 = nI s)) (i + 1)) (by first | exact msk_t (decide_eq_true c79) | exact msk_f (fun z => c79 (of_decide_eq_true z))) ?_
      refine J_istore_n (pc := 91) dX11_sister_91 (by decide) rfl ?_
      refine J_iinc (pc := 92) (v := 1) dX11_sister_92 rfl (by decide) rfl ?_
      refine J_goto (pc := 95) (tgt := 57) dX11_sister_95 (by decide) ?_
      exact ih
