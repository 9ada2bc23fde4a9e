/-! ===== numbers, words, signs ===== -/
def nvl (cap : Nat) (cc : Nat → Nat) : Nat → Nat → Nat → Nat
  | 0, _, v => v
  | f + 1, a, v => if isD (cc a) = true then nvl cap cc f (a + 1) (min cap (10 * v + (cc a - 48))) else v
theorem nvl_f {cap : Nat} {cc : Nat → Nat} {f a v : Nat} (h : ¬ isD (cc a) = true) : nvl cap cc f a v = v := by
  cases f with
  | zero => rfl
  | succ f => exact if_neg h
theorem nvl_le {cap : Nat} {cc : Nat → Nat} : ∀ {f a v}, v ≤ cap → nvl cap cc f a v ≤ cap
  | 0, _, _, h => h
  | f + 1, a, v, h => by
    by_cases q : isD (cc a) = true
    · show (if isD (cc a) = true then _ else v) ≤ cap
      rw [if_pos q]
      exact nvl_le (Nat.min_le_left _ _)
    · rw [nvl_f q]; exact h
def pnum (cc : Nat → Nat) (n lo hi : Nat) (t : PT) : Nat × PT := if t.2.1 ≠ 0 then (0, t) else if isD (cc (pbl cc n t.1)) = true then (if lo ≤ nvl 100000 cc (n - pbl cc n t.1) (pbl cc n t.1) 0 ∧ nvl 100000 cc (n - pbl cc n t.1) (pbl cc n t.1) 0 < hi then (nvl 100000 cc (n - pbl cc n t.1) (pbl cc n t.1) 0, (pde cc n (pbl cc n t.1), 0, t.2.2)) else (0, (pde cc n (pbl cc n t.1), 2, pbl cc n t.1))) else (0, (pbl cc n t.1, 1, pbl cc n t.1))
def psg (cc : Nat → Nat) (n c : Nat) (t : PT) : PT := if t.2.1 ≠ 0 then t else if cc (pbl cc n t.1) = c then (pbl cc n t.1 + 1, t.2) else (pbl cc n t.1, 1, pbl cc n t.1)
def ptk (cc : Nat → Nat) (n c : Nat) (t : PT) : Bool × PT := if t.2.1 ≠ 0 then (false, t) else if cc (pbl cc n t.1) = c then (true, (pbl cc n t.1 + 1, t.2)) else (false, (pbl cc n t.1, t.2))
/-- where a reading stands: within the text; its fault is one of three -/
def PO (n : Nat) (t : PT) : Prop := t.1 ≤ n ∧ t.2.1 ≤ 3 ∧ t.2.2 ≤ n
theorem cc_lt {S : Sx} {n : Nat} {cc : Nat → Nat} (hx : TX S n cc) {k c : Nat} (h : cc k = c) (hc : c < 256) : k < n := by
  by_cases q : k < n
  · exact q
  · rw [hx.2.2.2 k (by omega)] at h; omega
theorem PO_num {S : Sx} {n : Nat} {cc : Nat → Nat} (hx : TX S n cc) {t : PT} (h : PO n t) (lo hi : Nat) : PO n (pnum cc n lo hi t).2 := by
  unfold pnum
  have h1 := pbl_le cc h.1
  have h2 := pde_le cc h1
  split
  · exact h
  · split
    · split
      · exact ⟨h2, by show 0 ≤ 3; omega, h.2.2⟩
      · exact ⟨h2, by show 2 ≤ 3; omega, h1⟩
    · exact ⟨h1, by show 1 ≤ 3; omega, h1⟩
theorem PO_sg {S : Sx} {n : Nat} {cc : Nat → Nat} (hx : TX S n cc) {t : PT} (h : PO n t) {c : Nat} (hc : c < 256) : PO n (psg cc n c t) := by
  unfold psg
  have h1 := pbl_le cc h.1
  split
  · exact h
  · split
    · next q => exact ⟨cc_lt hx q hc, h.2⟩
    · exact ⟨h1, by show 1 ≤ 3; omega, h1⟩
theorem PO_tk {S : Sx} {n : Nat} {cc : Nat → Nat} (hx : TX S n cc) {t : PT} (h : PO n t) {c : Nat} (hc : c < 256) : PO n (ptk cc n c t).2 := by
  unfold ptk
  have h1 := pbl_le cc h.1
  split
  · exact h
  · split
    · next q => exact ⟨cc_lt hx q hc, h.2⟩
    · exact ⟨h1, h.2⟩
theorem PO_wr {n : Nat} {t : PT} (h : PO n t) {k p : Nat} (hk : k ≤ 3) (hp : p ≤ n) : PO n (pwr k p t) := by
  unfold pwr
  split
  · exact ⟨h.1, hk, hp⟩
  · exact h
theorem PO_bl {n : Nat} {cc : Nat → Nat} {t : PT} (h : PO n t) : PO n (pbl cc n t.1, t.2) := ⟨pbl_le cc h.1, h.2⟩
theorem PO_we {n : Nat} {cc : Nat → Nat} {t : PT} (h : PO n t) : PO n (pwe cc n t.1, t.2) := ⟨pwe_le cc h.1, h.2⟩
theorem ps_same {S : Sx} {t u : PT} (h : t = u) : ps S t = ps S u := by rw [h]
theorem inH {v lo hi : Nat} {x y : Int32} (hx : x = nI lo) (hy : y = nI hi - 1) (hv : v < 2 ^ 20) (hl : lo < 2 ^ 20) (hh : hi < 2 ^ 20) : (x ≤ nI v ∧ nI v ≤ y) ↔ (lo ≤ v ∧ v < hi) := by
  have e : (nI hi - 1).toInt = (hi : Int) - 1 := pk_sub_toInt (b := 1) (by omega) (by omega)
  rw [hx, hy, Int32.le_iff_toInt_le, Int32.le_iff_toInt_le, nI_toInt (by omega), nI_toInt (by omega), e]
  omega
theorem r_X11_number {g : Gp} {S : Sx} {lo hi : Nat} {xl xh : Int32} {t : PT} {n : Nat} {cc : Nat → Nat} (hx : TX S n cc) (ht : PO n t) (hl : xl = nI lo) (hh : xh = nI hi - 1) (hl2 : lo < 2 ^ 20) (hh2 : hi < 2 ^ 20) : RT g mX11_number 2 [.ref 59, .int xl, .int xh] (ps S t) (some (.int (nI (pnum cc n lo hi t).1))) (ps S (pnum cc n lo hi t).2) := by
  refine RT_ofQ ⟨rfl, rfl⟩ (Nat.le_of_ble_eq_true rfl) (fun sz Q hQ => ?_)
  have hn6 := hx.2.1
  obtain ⟨ht1, ht2, ht3⟩ := ht
  by_cases hf : t.2.1 = 0
  · have hbl := pbl_le cc ht1
    obtain ⟨b, hb⟩ : ∃ b, b = pbl cc n t.1 := ⟨_, rfl⟩
    have hpn : pnum cc n lo hi t = if isD (cc b) = true then (if lo ≤ nvl 100000 cc (n - b) b 0 ∧ nvl 100000 cc (n - b) b 0 < hi then (nvl 100000 cc (n - b) b 0, (pde cc n b, 0, t.2.2)) else (0, (pde cc n b, 2, b))) else (0, (b, 1, b)) := by unfold pnum; rw [if_neg (fun q => q hf), ← hb]
    rw [hpn] at hQ
    rw [← hb] at hbl
    refine J_aload_n (pc := 0) dX11_number_0 rfl ?_
    refine J_geti (pc := 1) dX11_number_1 kc11 fl_X11_119 rfl ?_
    refine J_if_eq (pc := 4) (tgt := 9) dX11_number_4 (by decide) (fun c4 => ?_) (fun c4 => absurd (show nI t.2.1 = 0 by rw [hf]; rfl) c4)
    refine J_aload_n (pc := 9) dX11_number_9 rfl ?_
    refine J_cvv (pc := 10) (N := mX11_blanks) dX11_number_10 ml_X11_125 cf_X11_blanks cv_X11_blanks (r_X11_blanks (S := S) (t := t) hx ht1) rfl rfl (Nat.le_of_ble_eq_true rfl) (by decide) (rv_of (ci := 11) rfl rfl rfl) ?_
    refine J_cg2 (S' := ps S (b, t.2)) (ps_same (by rw [hb])) ?_
    refine J_aload_n (pc := 13) dX11_number_13 rfl ?_
    refine J_geti (pc := 14) dX11_number_14 kc11 fl_X11_112 rfl ?_
    refine J_istore_n (pc := 17) dX11_number_17 (by decide) rfl ?_
    refine J_iconst (pc := 18) (v := 0) dX11_number_18 (by decide) ?_
    refine J_istore (pc := 19) dX11_number_19 (by decide) rfl ?_
    by_cases hd : isD (cc b) = true
    · rw [if_pos hd] at hQ
      refine J_aload_n (pc := 21) dX11_number_21 rfl ?_
      refine J_aload_n (pc := 22) dX11_number_22 rfl ?_
      refine J_geti (pc := 23) dX11_number_23 kc11 fl_X11_112 rfl ?_
      refine J_cvr (pc := 26) (N := mX11_byteAt) dX11_number_26 ml_X11_115 cf_X11_byteAt cv_X11_byteAt (r_X11_byteAt (S := ps S (b, t.2)) (k := b) (n := n) (cc := cc) hx (by omega)) rfl rfl (Nat.le_of_ble_eq_true rfl) (by decide) (rv_of (ci := 11) rfl rfl rfl) ?_
      refine J_csr (pc := 29) (N := mX11_isDigit) dX11_number_29 ml_X11_128 cf_X11_isDigit cs_X11_isDigit (r_X11_isDigit (S := ps S (b, t.2))) rfl rfl (Nat.le_of_ble_eq_true rfl) (by decide) ?_
      refine J_ifp_ne (pc := 32) (tgt := 44) dX11_number_32 (by decide) (fun c32 => ?_) (fun c32 => absurd ((bv_D (TX_le hx b)).mpr hd) c32)
      have e0 : t.2 = (0, t.2.2) := by rw [← hf]
      have loop : ∀ f a v, a + f = n → v ≤ 100000 → (∀ e w, e = skp (fun k => isD (cc k)) f a → w = nvl 100000 cc f a v → J g mX11_number 2 [] 106 [some (.ref 59), some (.int xl), some (.int xh), some (.int (nI b)), some (.int (nI w))] [] (hs (ps S (e, t.2))) sz 0 0 Q) → J g mX11_number 2 [] 44 [some (.ref 59), some (.int xl), some (.int xh), some (.int (nI b)), some (.int (nI v))] [] (hs (ps S (a, t.2))) sz 0 0 Q := by
        intro f
        induction f with
        | zero =>
          intro a v ha hv hq
          refine J_aload_n (pc := 44) dX11_number_44 rfl ?_
          refine J_aload_n (pc := 45) dX11_number_45 rfl ?_
          refine J_geti (pc := 46) dX11_number_46 kc11 fl_X11_112 rfl ?_
          refine J_cvr (pc := 49) (N := mX11_byteAt) dX11_number_49 ml_X11_115 cf_X11_byteAt cv_X11_byteAt (r_X11_byteAt (S := ps S (a, t.2)) (k := a) (n := n) (cc := cc) hx (by omega)) rfl rfl (Nat.le_of_ble_eq_true rfl) (by decide) (rv_of (ci := 11) rfl rfl rfl) ?_
          refine J_csr (pc := 52) (N := mX11_isDigit) dX11_number_52 ml_X11_128 cf_X11_isDigit cs_X11_isDigit (r_X11_isDigit (S := ps S (a, t.2))) rfl rfl (Nat.le_of_ble_eq_true rfl) (by decide) ?_
          refine J_ifp_eq (pc := 55) (tgt := 106) dX11_number_55 (by decide) (fun c55 => ?_) (fun c55 => absurd c55 (by rw [show a = n by omega, hx.2.2.2 n (Nat.le_refl _)]; decide))
          exact hq a v rfl rfl
        | succ f ih =>
          intro a v ha hv hq
          by_cases q : isD (cc a) = true
          · have q' : 48 ≤ cc a ∧ cc a ≤ 57 := of_decide_eq_true q
            have hbv : bv (cc a) = nI (cc a) := if_neg (by omega)
            rw [skp_t (P := fun k => isD (cc k)) q, show nvl 100000 cc (f + 1) a v = nvl 100000 cc f (a + 1) (min 100000 (10 * v + (cc a - 48))) from if_pos q] at hq
            refine J_aload_n (pc := 44) dX11_number_44 rfl ?_
            refine J_aload_n (pc := 45) dX11_number_45 rfl ?_
            refine J_geti (pc := 46) dX11_number_46 kc11 fl_X11_112 rfl ?_
            refine J_cvr (pc := 49) (N := mX11_byteAt) dX11_number_49 ml_X11_115 cf_X11_byteAt cv_X11_byteAt (r_X11_byteAt (S := ps S (a, t.2)) (k := a) (n := n) (cc := cc) hx (by omega)) rfl rfl (Nat.le_of_ble_eq_true rfl) (by decide) (rv_of (ci := 11) rfl rfl rfl) ?_
            refine J_csr (pc := 52) (N := mX11_isDigit) dX11_number_52 ml_X11_128 cf_X11_isDigit cs_X11_isDigit (r_X11_isDigit (S := ps S (a, t.2))) rfl rfl (Nat.le_of_ble_eq_true rfl) (by decide) ?_
            refine J_ifp_eq (pc := 55) (tgt := 106) dX11_number_55 (by decide) (fun c55 => absurd ((bv_D (TX_le hx a)).mpr q) c55) (fun c55 => ?_)
            refine J_bipush (pc := 58) (v := 10) dX11_number_58 (by decide) ?_
            refine J_iload (pc := 60) dX11_number_60 rfl ?_
            refine J_imul (pc := 62) dX11_number_62 ?_
            refine J_aload_n (pc := 63) dX11_number_63 rfl ?_
            refine J_aload_n (pc := 64) dX11_number_64 rfl ?_
            refine J_geti (pc := 65) dX11_number_65 kc11 fl_X11_112 rfl ?_
            refine J_cvr (pc := 68) (N := mX11_byteAt) dX11_number_68 ml_X11_115 cf_X11_byteAt cv_X11_byteAt (r_X11_byteAt (S := ps S (a, t.2)) (k := a) (n := n) (cc := cc) hx (by omega)) rfl rfl (Nat.le_of_ble_eq_true rfl) (by decide) (rv_of (ci := 11) rfl rfl rfl) ?_
            refine J_iadd (pc := 71) dX11_number_71 ?_
            refine J_bipush (pc := 72) (v := 48) dX11_number_72 (by decide) ?_
            refine J_isub (pc := 74) dX11_number_74 ?_
            refine J_t1 (y := nI (10 * v + (cc a - 48))) (by rw [hbv]; show nI 10 * nI v + nI (cc a) - nI 48 = _; rw [pk_mul, nI_add, pk_sub (by omega), show 10 * v + cc a - 48 = 10 * v + (cc a - 48) by omega]) ?_
            refine J_istore (pc := 75) dX11_number_75 (by decide) rfl ?_
            refine J_mid 91 (nI (min 100000 (10 * v + (cc a - 48)))) ?_ (fun hj77 => ?_)
            · refine J_istore (pc := 91) dX11_number_91 (by decide) rfl ?_
              refine J_aload_n (pc := 93) dX11_number_93 rfl ?_
              refine J_dup (pc := 94) dX11_number_94 rfl ?_
              refine J_geti (pc := 95) dX11_number_95 kc11 fl_X11_112 rfl ?_
              refine J_iconst (pc := 98) (v := 1) dX11_number_98 (by decide) ?_
              refine J_iadd (pc := 99) dX11_number_99 ?_
              refine J_t1 (nI_1 a) ?_
              refine J_puti (pc := 100) dX11_number_100 kc11 fl_X11_112 rfl ⟨rfl, rfl⟩ ?_
              refine J_cg2 (ps_at S (a, t.2) (a + 1)) ?_
              refine J_goto (pc := 103) (tgt := 44) dX11_number_103 (by decide) ?_
              exact ih (a + 1) _ (by omega) (Nat.min_le_left _ _) hq
            · refine J_iload (pc := 77) dX11_number_77 rfl ?_
              refine J_ldc (pc := 79) (v := 100000) dX11_number_79 kt_X11_136 ?_
              refine J_icmp_le (pc := 81) (tgt := 89) dX11_number_81 (by decide) (fun c81 => ?_) (fun c81 => ?_)
              · refine J_iload (pc := 89) dX11_number_89 rfl ?_
                exact hj77 _ (by first | exact congrArg nI (Nat.min_eq_right ((nI_leI (b := 100000) (by omega) (by decide)).mp c81)).symm | exact congrArg nI (Nat.min_eq_left (Nat.le_of_lt (Nat.not_le.mp (fun z => c81 ((nI_leI (b := 100000) (by omega) (by decide)).mpr z))))).symm)
              · refine J_ldc (pc := 84) (v := 100000) dX11_number_84 kt_X11_136 ?_
                refine J_goto (pc := 86) (tgt := 91) dX11_number_86 (by decide) ?_
                exact hj77 _ (by first | exact congrArg nI (Nat.min_eq_right ((nI_leI (b := 100000) (by omega) (by decide)).mp c81)).symm | exact congrArg nI (Nat.min_eq_left (Nat.le_of_lt (Nat.not_le.mp (fun z => c81 ((nI_leI (b := 100000) (by omega) (by decide)).mpr z))))).symm)
          · rw [skp_f (P := fun k => isD (cc k)) q, nvl_f q] at hq
            refine J_aload_n (pc := 44) dX11_number_44 rfl ?_
            refine J_aload_n (pc := 45) dX11_number_45 rfl ?_
            refine J_geti (pc := 46) dX11_number_46 kc11 fl_X11_112 rfl ?_
            refine J_cvr (pc := 49) (N := mX11_byteAt) dX11_number_49 ml_X11_115 cf_X11_byteAt cv_X11_byteAt (r_X11_byteAt (S := ps S (a, t.2)) (k := a) (n := n) (cc := cc) hx (by omega)) rfl rfl (Nat.le_of_ble_eq_true rfl) (by decide) (rv_of (ci := 11) rfl rfl rfl) ?_
            refine J_csr (pc := 52) (N := mX11_isDigit) dX11_number_52 ml_X11_128 cf_X11_isDigit cs_X11_isDigit (r_X11_isDigit (S := ps S (a, t.2))) rfl rfl (Nat.le_of_ble_eq_true rfl) (by decide) ?_
            refine J_ifp_eq (pc := 55) (tgt := 106) dX11_number_55 (by decide) (fun c55 => ?_) (fun c55 => absurd c55 (fun z => q ((bv_D (TX_le hx a)).mp z)))
            exact hq a v rfl rfl
      refine loop (n - b) b 0 (by omega) (by omega) (fun e w he hw => ?_)
      have hw1 : w ≤ 100000 := by rw [hw]; exact nvl_le (by omega)
      rw [← hw, show pde cc n b = e by rw [he]; rfl] at hQ
      by_cases hin : lo ≤ w ∧ w < hi
      · rw [if_pos hin] at hQ
        refine J_iload (pc := 106) dX11_number_106 rfl ?_
        refine J_iload_n (pc := 108) dX11_number_108 rfl ?_
        refine J_iload_n (pc := 109) dX11_number_109 rfl ?_
        refine J_csr (pc := 110) (N := mX11_in) dX11_number_110 ml_X11_137 cf_X11_in cs_X11_in (r_X11_in (S := ps S (e, t.2))) rfl rfl (Nat.le_of_ble_eq_true rfl) (by decide) ?_
        refine J_ifp_ne (pc := 113) (tgt := 122) dX11_number_113 (by decide) (fun c113 => ?_) (fun c113 => absurd ((inH hl hh (by omega) hl2 hh2).mpr hin) c113)
        refine J_aload_n (pc := 122) dX11_number_122 rfl ?_
        refine J_geti (pc := 123) dX11_number_123 kc11 fl_X11_119 rfl ?_
        refine J_if_ne (pc := 126) (tgt := 134) dX11_number_126 (by decide) (fun c126 => absurd (show nI t.2.1 = 0 by rw [hf]; rfl) c126) (fun c126 => ?_)
        refine J_iload (pc := 129) dX11_number_129 rfl ?_
        refine J_goto (pc := 131) (tgt := 135) dX11_number_131 (by decide) ?_
        exact J_iret (pc := 135) rfl rfl rfl dX11_number_135 (rq hQ rfl (ps_same (by rw [← e0])))
      · rw [if_neg hin] at hQ
        refine J_iload (pc := 106) dX11_number_106 rfl ?_
        refine J_iload_n (pc := 108) dX11_number_108 rfl ?_
        refine J_iload_n (pc := 109) dX11_number_109 rfl ?_
        refine J_csr (pc := 110) (N := mX11_in) dX11_number_110 ml_X11_137 cf_X11_in cs_X11_in (r_X11_in (S := ps S (e, t.2))) rfl rfl (Nat.le_of_ble_eq_true rfl) (by decide) ?_
        refine J_ifp_ne (pc := 113) (tgt := 122) dX11_number_113 (by decide) (fun c113 => absurd c113 (fun z => hin ((inH hl hh (by omega) hl2 hh2).mp z))) (fun c113 => ?_)
        refine J_aload_n (pc := 116) dX11_number_116 rfl ?_
        refine J_iconst (pc := 117) (v := 2) dX11_number_117 (by decide) ?_
        refine J_iload_n (pc := 118) dX11_number_118 rfl ?_
        refine J_cvv (pc := 119) (N := mX11_wrong) dX11_number_119 ml_X11_132 cf_X11_wrong cv_X11_wrong (r_wr (S := S) (t := (e, t.2)) (k := 2) (h := b) ht2 (by decide)) rfl rfl (Nat.le_of_ble_eq_true rfl) (by decide) (rv_of (ci := 11) rfl rfl rfl) ?_
        refine J_cg2 (S' := ps S (e, 2, b)) (ps_same (if_pos hf)) ?_
        refine J_aload_n (pc := 122) dX11_number_122 rfl ?_
        refine J_geti (pc := 123) dX11_number_123 kc11 fl_X11_119 rfl ?_
        refine J_if_ne (pc := 126) (tgt := 134) dX11_number_126 (by decide) (fun c126 => ?_) (fun c126 => absurd c126 (show ¬ nI 2 = 0 by decide))
        refine J_iconst (pc := 134) (v := 0) dX11_number_134 (by decide) ?_
        exact J_iret (pc := 135) rfl rfl rfl dX11_number_135 (rq hQ rfl rfl)
    · rw [if_neg hd] at hQ
      refine J_aload_n (pc := 21) dX11_number_21 rfl ?_
      refine J_aload_n (pc := 22) dX11_number_22 rfl ?_
      refine J_geti (pc := 23) dX11_number_23 kc11 fl_X11_112 rfl ?_
      refine J_cvr (pc := 26) (N := mX11_byteAt) dX11_number_26 ml_X11_115 cf_X11_byteAt cv_X11_byteAt (r_X11_byteAt (S := ps S (b, t.2)) (k := b) (n := n) (cc := cc) hx (by omega)) rfl rfl (Nat.le_of_ble_eq_true rfl) (by decide) (rv_of (ci := 11) rfl rfl rfl) ?_
      refine J_csr (pc := 29) (N := mX11_isDigit) dX11_number_29 ml_X11_128 cf_X11_isDigit cs_X11_isDigit (r_X11_isDigit (S := ps S (b, t.2))) rfl rfl (Nat.le_of_ble_eq_true rfl) (by decide) ?_
      refine J_ifp_ne (pc := 32) (tgt := 44) dX11_number_32 (by decide) (fun c32 => absurd c32 (fun z => hd ((bv_D (TX_le hx b)).mp z))) (fun c32 => ?_)
      refine J_aload_n (pc := 35) dX11_number_35 rfl ?_
      refine J_iconst (pc := 36) (v := 1) dX11_number_36 (by decide) ?_
      refine J_aload_n (pc := 37) dX11_number_37 rfl ?_
      refine J_geti (pc := 38) dX11_number_38 kc11 fl_X11_112 rfl ?_
      refine J_cvv (pc := 41) (N := mX11_wrong) dX11_number_41 ml_X11_132 cf_X11_wrong cv_X11_wrong (r_wr (S := S) (t := (b, t.2)) (k := 1) (h := b) ht2 (by decide)) rfl rfl (Nat.le_of_ble_eq_true rfl) (by decide) (rv_of (ci := 11) rfl rfl rfl) ?_
      refine J_cg2 (S' := ps S (b, 1, b)) (ps_same (if_pos hf)) ?_
      refine J_aload_n (pc := 44) dX11_number_44 rfl ?_
      refine J_aload_n (pc := 45) dX11_number_45 rfl ?_
      refine J_geti (pc := 46) dX11_number_46 kc11 fl_X11_112 rfl ?_
      refine J_cvr (pc := 49) (N := mX11_byteAt) dX11_number_49 ml_X11_115 cf_X11_byteAt cv_X11_byteAt (r_X11_byteAt (S := ps S (b, 1, b)) (k := b) (n := n) (cc := cc) hx (by omega)) rfl rfl (Nat.le_of_ble_eq_true rfl) (by decide) (rv_of (ci := 11) rfl rfl rfl) ?_
      refine J_csr (pc := 52) (N := mX11_isDigit) dX11_number_52 ml_X11_128 cf_X11_isDigit cs_X11_isDigit (r_X11_isDigit (S := ps S (b, 1, b))) rfl rfl (Nat.le_of_ble_eq_true rfl) (by decide) ?_
      refine J_ifp_eq (pc := 55) (tgt := 106) dX11_number_55 (by decide) (fun c55 => ?_) (fun c55 => absurd c55 (fun z => hd ((bv_D (TX_le hx b)).mp z)))
      refine J_iload (pc := 106) dX11_number_106 rfl ?_
      refine J_iload_n (pc := 108) dX11_number_108 rfl ?_
      refine J_iload_n (pc := 109) dX11_number_109 rfl ?_
      refine J_csr (pc := 110) (N := mX11_in) dX11_number_110 ml_X11_137 cf_X11_in cs_X11_in (r_X11_in (S := ps S (b, 1, b))) rfl rfl (Nat.le_of_ble_eq_true rfl) (by decide) ?_
      refine J_ifp_ne (pc := 113) (tgt := 122) dX11_number_113 (by decide) (fun c113 => ?_) (fun c113 => ?_)
      · refine J_aload_n (pc := 122) dX11_number_122 rfl ?_
        refine J_geti (pc := 123) dX11_number_123 kc11 fl_X11_119 rfl ?_
        refine J_if_ne (pc := 126) (tgt := 134) dX11_number_126 (by decide) (fun c126 => ?_) (fun c126 => absurd c126 (show ¬ nI 1 = 0 by decide))
        refine J_iconst (pc := 134) (v := 0) dX11_number_134 (by decide) ?_
        exact J_iret (pc := 135) rfl rfl rfl dX11_number_135 (rq hQ rfl rfl)
      · refine J_aload_n (pc := 116) dX11_number_116 rfl ?_
        refine J_iconst (pc := 117) (v := 2) dX11_number_117 (by decide) ?_
        refine J_iload_n (pc := 118) dX11_number_118 rfl ?_
        refine J_cvv (pc := 119) (N := mX11_wrong) dX11_number_119 ml_X11_132 cf_X11_wrong cv_X11_wrong (r_wr (S := S) (t := (b, 1, b)) (k := 2) (h := b) (show 1 ≤ 3 by decide) (by decide)) rfl rfl (Nat.le_of_ble_eq_true rfl) (by decide) (rv_of (ci := 11) rfl rfl rfl) ?_
        refine J_cg2 (S' := ps S (b, 1, b)) (ps_same (if_neg (show ¬ 1 = 0 by decide))) ?_
        refine J_aload_n (pc := 122) dX11_number_122 rfl ?_
        refine J_geti (pc := 123) dX11_number_123 kc11 fl_X11_119 rfl ?_
        refine J_if_ne (pc := 126) (tgt := 134) dX11_number_126 (by decide) (fun c126 => ?_) (fun c126 => absurd c126 (show ¬ nI 1 = 0 by decide))
        refine J_iconst (pc := 134) (v := 0) dX11_number_134 (by decide) ?_
        exact J_iret (pc := 135) rfl rfl rfl dX11_number_135 (rq hQ rfl rfl)
  · have hpn : pnum cc n lo hi t = (0, t) := if_pos hf
    rw [hpn] at hQ
    refine J_aload_n (pc := 0) dX11_number_0 rfl ?_
    refine J_geti (pc := 1) dX11_number_1 kc11 fl_X11_119 rfl ?_
    refine J_if_eq (pc := 4) (tgt := 9) dX11_number_4 (by decide) (fun c4 => absurd c4 (fun z => hf ((nI_z ht2).mp z))) (fun c4 => ?_)
    refine J_iconst (pc := 7) (v := 0) dX11_number_7 (by decide) ?_
    exact J_iret (pc := 8) rfl rfl rfl dX11_number_8 (rq hQ rfl rfl)
theorem r_X11_sign {g : Gp} {S : Sx} {c : Nat} {t : PT} {n : Nat} {cc : Nat → Nat} (hx : TX S n cc) (ht : PO n t) (hc : c < 256) : RT g mX11_sign 2 [.ref 59, .int (nI c)] (ps S t) none (ps S (psg cc n c t)) := by
  refine RT_ofQ ⟨rfl, rfl⟩ (Nat.le_of_ble_eq_true rfl) (fun sz Q hQ => ?_)
  have hn6 := hx.2.1
  obtain ⟨ht1, ht2, ht3⟩ := ht
  by_cases hf : t.2.1 = 0
  · have hbl := pbl_le cc ht1
    obtain ⟨b, hb⟩ : ∃ b, b = pbl cc n t.1 := ⟨_, rfl⟩
    have hpn : psg cc n c t = if cc b = c then (b + 1, t.2) else (b, 1, b) := by unfold psg; rw [if_neg (fun q => q hf), ← hb]
    rw [hpn] at hQ
    rw [← hb] at hbl
    by_cases q : cc b = c
    · rw [if_pos q] at hQ
      refine J_aload_n (pc := 0) dX11_sign_0 rfl ?_
      refine J_geti (pc := 1) dX11_sign_1 kc11 fl_X11_119 rfl ?_
      refine J_if_eq (pc := 4) (tgt := 8) dX11_sign_4 (by decide) (fun c4 => ?_) (fun c4 => absurd (show nI t.2.1 = 0 by rw [hf]; rfl) c4)
      refine J_aload_n (pc := 8) dX11_sign_8 rfl ?_
      refine J_cvv (pc := 9) (N := mX11_blanks) dX11_sign_9 ml_X11_125 cf_X11_blanks cv_X11_blanks (r_X11_blanks (S := S) (t := t) hx ht1) rfl rfl (Nat.le_of_ble_eq_true rfl) (by decide) (rv_of (ci := 11) rfl rfl rfl) ?_
      refine J_cg2 (S' := ps S (b, t.2)) (ps_same (by rw [hb])) ?_
      refine J_aload_n (pc := 12) dX11_sign_12 rfl ?_
      refine J_aload_n (pc := 13) dX11_sign_13 rfl ?_
      refine J_geti (pc := 14) dX11_sign_14 kc11 fl_X11_112 rfl ?_
      refine J_cvr (pc := 17) (N := mX11_byteAt) dX11_sign_17 ml_X11_115 cf_X11_byteAt cv_X11_byteAt (r_X11_byteAt (S := ps S (b, t.2)) (k := b) (n := n) (cc := cc) hx (by omega)) rfl rfl (Nat.le_of_ble_eq_true rfl) (by decide) (rv_of (ci := 11) rfl rfl rfl) ?_
      refine J_iload_n (pc := 20) dX11_sign_20 rfl ?_
      refine J_icmp_ne (pc := 21) (tgt := 37) dX11_sign_21 (by decide) (fun c21 => absurd ((bv_eq (TX_le hx b) hc).mpr q) c21) (fun c21 => ?_)
      refine J_aload_n (pc := 24) dX11_sign_24 rfl ?_
      refine J_dup (pc := 25) dX11_sign_25 rfl ?_
      refine J_geti (pc := 26) dX11_sign_26 kc11 fl_X11_112 rfl ?_
      refine J_iconst (pc := 29) (v := 1) dX11_sign_29 (by decide) ?_
      refine J_iadd (pc := 30) dX11_sign_30 ?_
      refine J_t1 (nI_1 b) ?_
      refine J_puti (pc := 31) dX11_sign_31 kc11 fl_X11_112 rfl ⟨rfl, rfl⟩ ?_
      refine J_cg2 (ps_at S (b, t.2) (b + 1)) ?_
      refine J_goto (pc := 34) (tgt := 46) dX11_sign_34 (by decide) ?_
      exact J_ret (pc := 46) rfl rfl dX11_sign_46 (rqv hQ rfl)
    · rw [if_neg q] at hQ
      refine J_aload_n (pc := 0) dX11_sign_0 rfl ?_
      refine J_geti (pc := 1) dX11_sign_1 kc11 fl_X11_119 rfl ?_
      refine J_if_eq (pc := 4) (tgt := 8) dX11_sign_4 (by decide) (fun c4 => ?_) (fun c4 => absurd (show nI t.2.1 = 0 by rw [hf]; rfl) c4)
      refine J_aload_n (pc := 8) dX11_sign_8 rfl ?_
      refine J_cvv (pc := 9) (N := mX11_blanks) dX11_sign_9 ml_X11_125 cf_X11_blanks cv_X11_blanks (r_X11_blanks (S := S) (t := t) hx ht1) rfl rfl (Nat.le_of_ble_eq_true rfl) (by decide) (rv_of (ci := 11) rfl rfl rfl) ?_
      refine J_cg2 (S' := ps S (b, t.2)) (ps_same (by rw [hb])) ?_
      refine J_aload_n (pc := 12) dX11_sign_12 rfl ?_
      refine J_aload_n (pc := 13) dX11_sign_13 rfl ?_
      refine J_geti (pc := 14) dX11_sign_14 kc11 fl_X11_112 rfl ?_
      refine J_cvr (pc := 17) (N := mX11_byteAt) dX11_sign_17 ml_X11_115 cf_X11_byteAt cv_X11_byteAt (r_X11_byteAt (S := ps S (b, t.2)) (k := b) (n := n) (cc := cc) hx (by omega)) rfl rfl (Nat.le_of_ble_eq_true rfl) (by decide) (rv_of (ci := 11) rfl rfl rfl) ?_
      refine J_iload_n (pc := 20) dX11_sign_20 rfl ?_
      refine J_icmp_ne (pc := 21) (tgt := 37) dX11_sign_21 (by decide) (fun c21 => ?_) (fun c21 => absurd c21 (fun z => q ((bv_eq (TX_le hx b) hc).mp z)))
      refine J_aload_n (pc := 37) dX11_sign_37 rfl ?_
      refine J_iconst (pc := 38) (v := 1) dX11_sign_38 (by decide) ?_
      refine J_aload_n (pc := 39) dX11_sign_39 rfl ?_
      refine J_geti (pc := 40) dX11_sign_40 kc11 fl_X11_112 rfl ?_
      refine J_cvv (pc := 43) (N := mX11_wrong) dX11_sign_43 ml_X11_132 cf_X11_wrong cv_X11_wrong (r_wr (S := S) (t := (b, t.2)) (k := 1) (h := b) ht2 (by decide)) rfl rfl (Nat.le_of_ble_eq_true rfl) (by decide) (rv_of (ci := 11) rfl rfl rfl) ?_
      refine J_cg2 (S' := ps S (b, 1, b)) (ps_same (if_pos hf)) ?_
      exact J_ret (pc := 46) rfl rfl dX11_sign_46 (rqv hQ rfl)
  · have hpn : psg cc n c t = t := if_pos hf
    rw [hpn] at hQ
    refine J_aload_n (pc := 0) dX11_sign_0 rfl ?_
    refine J_geti (pc := 1) dX11_sign_1 kc11 fl_X11_119 rfl ?_
    refine J_if_eq (pc := 4) (tgt := 8) dX11_sign_4 (by decide) (fun c4 => absurd c4 (fun z => hf ((nI_z ht2).mp z))) (fun c4 => ?_)
    exact J_ret (pc := 7) rfl rfl dX11_sign_7 (rqv hQ rfl)
theorem r_X11_takesSign {g : Gp} {S : Sx} {c : Nat} {t : PT} {n : Nat} {cc : Nat → Nat} (hx : TX S n cc) (ht : PO n t) (hc : c < 256) : RT g mX11_takesSign 2 [.ref 59, .int (nI c)] (ps S t) (some (.int (bI (ptk cc n c t).1))) (ps S (ptk cc n c t).2) := by
  refine RT_ofQ ⟨rfl, rfl⟩ (Nat.le_of_ble_eq_true rfl) (fun sz Q hQ => ?_)
  have hn6 := hx.2.1
  obtain ⟨ht1, ht2, ht3⟩ := ht
  by_cases hf : t.2.1 = 0
  · have hbl := pbl_le cc ht1
    obtain ⟨b, hb⟩ : ∃ b, b = pbl cc n t.1 := ⟨_, rfl⟩
    have hpn : ptk cc n c t = if cc b = c then (true, (b + 1, t.2)) else (false, (b, t.2)) := by unfold ptk; rw [if_neg (fun q => q hf), ← hb]
    rw [hpn] at hQ
    rw [← hb] at hbl
    by_cases q : cc b = c
    · rw [if_pos q] at hQ
      refine J_aload_n (pc := 0) dX11_takesSign_0 rfl ?_
      refine J_geti (pc := 1) dX11_takesSign_1 kc11 fl_X11_119 rfl ?_
      refine J_if_eq (pc := 4) (tgt := 9) dX11_takesSign_4 (by decide) (fun c4 => ?_) (fun c4 => absurd (show nI t.2.1 = 0 by rw [hf]; rfl) c4)
      refine J_aload_n (pc := 9) dX11_takesSign_9 rfl ?_
      refine J_cvv (pc := 10) (N := mX11_blanks) dX11_takesSign_10 ml_X11_125 cf_X11_blanks cv_X11_blanks (r_X11_blanks (S := S) (t := t) hx ht1) rfl rfl (Nat.le_of_ble_eq_true rfl) (by decide) (rv_of (ci := 11) rfl rfl rfl) ?_
      refine J_cg2 (S' := ps S (b, t.2)) (ps_same (by rw [hb])) ?_
      refine J_aload_n (pc := 13) dX11_takesSign_13 rfl ?_
      refine J_aload_n (pc := 14) dX11_takesSign_14 rfl ?_
      refine J_geti (pc := 15) dX11_takesSign_15 kc11 fl_X11_112 rfl ?_
      refine J_cvr (pc := 18) (N := mX11_byteAt) dX11_takesSign_18 ml_X11_115 cf_X11_byteAt cv_X11_byteAt (r_X11_byteAt (S := ps S (b, t.2)) (k := b) (n := n) (cc := cc) hx (by omega)) rfl rfl (Nat.le_of_ble_eq_true rfl) (by decide) (rv_of (ci := 11) rfl rfl rfl) ?_
      refine J_iload_n (pc := 21) dX11_takesSign_21 rfl ?_
      refine J_icmp_ne (pc := 22) (tgt := 29) dX11_takesSign_22 (by decide) (fun c22 => absurd ((bv_eq (TX_le hx b) hc).mpr q) c22) (fun c22 => ?_)
      refine J_iconst (pc := 25) (v := 1) dX11_takesSign_25 (by decide) ?_
      refine J_goto (pc := 26) (tgt := 30) dX11_takesSign_26 (by decide) ?_
      refine J_istore_n (pc := 30) dX11_takesSign_30 (by decide) rfl ?_
      refine J_iload_n (pc := 31) dX11_takesSign_31 rfl ?_
      refine J_if_eq (pc := 32) (tgt := 45) dX11_takesSign_32 (by decide) (fun c32 => absurd c32 (by decide)) (fun c32 => ?_)
      refine J_aload_n (pc := 35) dX11_takesSign_35 rfl ?_
      refine J_dup (pc := 36) dX11_takesSign_36 rfl ?_
      refine J_geti (pc := 37) dX11_takesSign_37 kc11 fl_X11_112 rfl ?_
      refine J_iconst (pc := 40) (v := 1) dX11_takesSign_40 (by decide) ?_
      refine J_iadd (pc := 41) dX11_takesSign_41 ?_
      refine J_t1 (nI_1 b) ?_
      refine J_puti (pc := 42) dX11_takesSign_42 kc11 fl_X11_112 rfl ⟨rfl, rfl⟩ ?_
      refine J_cg2 (ps_at S (b, t.2) (b + 1)) ?_
      refine J_iload_n (pc := 45) dX11_takesSign_45 rfl ?_
      exact J_iret (pc := 46) rfl rfl rfl dX11_takesSign_46 (rq hQ rfl rfl)
    · rw [if_neg q] at hQ
      refine J_aload_n (pc := 0) dX11_takesSign_0 rfl ?_
      refine J_geti (pc := 1) dX11_takesSign_1 kc11 fl_X11_119 rfl ?_
      refine J_if_eq (pc := 4) (tgt := 9) dX11_takesSign_4 (by decide) (fun c4 => ?_) (fun c4 => absurd (show nI t.2.1 = 0 by rw [hf]; rfl) c4)
      refine J_aload_n (pc := 9) dX11_takesSign_9 rfl ?_
      refine J_cvv (pc := 10) (N := mX11_blanks) dX11_takesSign_10 ml_X11_125 cf_X11_blanks cv_X11_blanks (r_X11_blanks (S := S) (t := t) hx ht1) rfl rfl (Nat.le_of_ble_eq_true rfl) (by decide) (rv_of (ci := 11) rfl rfl rfl) ?_
      refine J_cg2 (S' := ps S (b, t.2)) (ps_same (by rw [hb])) ?_
      refine J_aload_n (pc := 13) dX11_takesSign_13 rfl ?_
      refine J_aload_n (pc := 14) dX11_takesSign_14 rfl ?_
      refine J_geti (pc := 15) dX11_takesSign_15 kc11 fl_X11_112 rfl ?_
      refine J_cvr (pc := 18) (N := mX11_byteAt) dX11_takesSign_18 ml_X11_115 cf_X11_byteAt cv_X11_byteAt (r_X11_byteAt (S := ps S (b, t.2)) (k := b) (n := n) (cc := cc) hx (by omega)) rfl rfl (Nat.le_of_ble_eq_true rfl) (by decide) (rv_of (ci := 11) rfl rfl rfl) ?_
      refine J_iload_n (pc := 21) dX11_takesSign_21 rfl ?_
      refine J_icmp_ne (pc := 22) (tgt := 29) dX11_takesSign_22 (by decide) (fun c22 => ?_) (fun c22 => absurd c22 (fun z => q ((bv_eq (TX_le hx b) hc).mp z)))
      refine J_iconst (pc := 29) (v := 0) dX11_takesSign_29 (by decide) ?_
      refine J_istore_n (pc := 30) dX11_takesSign_30 (by decide) rfl ?_
      refine J_iload_n (pc := 31) dX11_takesSign_31 rfl ?_
      refine J_if_eq (pc := 32) (tgt := 45) dX11_takesSign_32 (by decide) (fun c32 => ?_) (fun c32 => absurd rfl c32)
      refine J_iload_n (pc := 45) dX11_takesSign_45 rfl ?_
      exact J_iret (pc := 46) rfl rfl rfl dX11_takesSign_46 (rq hQ rfl rfl)
  · have hpn : ptk cc n c t = (false, t) := if_pos hf
    rw [hpn] at hQ
    refine J_aload_n (pc := 0) dX11_takesSign_0 rfl ?_
    refine J_geti (pc := 1) dX11_takesSign_1 kc11 fl_X11_119 rfl ?_
    refine J_if_eq (pc := 4) (tgt := 9) dX11_takesSign_4 (by decide) (fun c4 => absurd c4 (fun z => hf ((nI_z ht2).mp z))) (fun c4 => ?_)
    refine J_iconst (pc := 7) (v := 0) dX11_takesSign_7 (by decide) ?_
    exact J_iret (pc := 8) rfl rfl rfl dX11_takesSign_8 (rq hQ rfl rfl)
