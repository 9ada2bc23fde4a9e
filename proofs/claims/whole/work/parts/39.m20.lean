/-! years -/
def drS (S : Sx) : Sx := sF S 59 47 (sf S 59 47 * 1103515245 + 12345)
def drN (S : Sx) (n : Nat) : Nat := (sf (drS S) 59 47 >>> ((16 : Int32) &&& 31)).toBitVec.toNat % 2 ^ 15 % n
def ylS (S : Sx) (nr s : Nat) : Sx := if sa S 536 (0 + s) = 0 ∧ mko S 536 (nI s) nr ≠ 0 then (if sa S 65 s ≤ nI (drN S 16) then drS S else sF (lpE (drS S) 536 s nr) 59 48 (sf S 59 48 + 1)) else S
def ylN (S : Sx) (nr : Nat) : Nat → Sx
  | 0 => S
  | s + 1 => ylS (ylN S nr s) nr s
def mcC (S : Sx) (nr : Nat) (ow : Nat → Nat) (m : Nat) (wv : Nat → Nat × Nat) (r p : Nat) : Prop := sa S 536 (36 + p) = -1 ∧ sa S 536 (26 + r) = 0 ∧ sa S (80 + r) 1 = sa S (100 + p) 0 ∧ sa S (100 + p) 1 ≤ mpw S 536 nr ow m wv r
def cuS (S : Sx) (r p : Nat) : Sx := sA (sA S 536 (36 + p) (nI r)) 536 (26 + r) 1
noncomputable def ycS (S : Sx) (nr np : Nat) (ow : Nat → Nat) (m : Nat) (wv : Nat → Nat × Nat) : Sx := if 0 < nr ∧ 0 < np then (haveI := Classical.propDecidable (mcC (drS (drS S)) nr ow m wv (drN S nr) (drN (drS S) np)); if mcC (drS (drS S)) nr ow m wv (drN S nr) (drN (drS S) np) then cuS (drS (drS S)) (drN S nr) (drN (drS S) np) else drS (drS S)) else S
noncomputable def ydS (S : Sx) (ns nr np : Nat) (ow : Nat → Nat) (m : Nat) (wv : Nat → Nat × Nat) : Sx := dyE (ycS (ylN S nr ns) nr np ow m wv) 536 nr
noncomputable def yrN (S : Sx) (ns nr np : Nat) (ow : Nat → Nat) (m : Nat) (wv : Nat → Nat × Nat) : Nat → Sx
  | 0 => S
  | k + 1 => ydS (yrN S ns nr np ow m wv k) ns nr np ow m wv
def yr0 (S : Sx) (x : Int32) : Sx := sF (sF (cpS S 535 536 45) 59 47 x) 59 48 0
theorem off3_dr {S S' : Sx} (h : off3 S S') : off3 S (drS S') := off3_F h rfl
theorem off3_dy {S S' : Sx} (h : off3 S S') (nr : Nat) : off3 S (dyE S' 536 nr) := by
  have g : ∀ i, off3 S (dyS S' 536 i) := by
    intro i
    induction i with
    | zero => exact h
    | succ i ih => exact off3_A (off3_A ih rfl) rfl
  exact off3_A (g nr) rfl
theorem off3_lp {S S' : Sx} (h : off3 S S') (s nr : Nat) : off3 S (lpE S' 536 s nr) := by
  have g : ∀ i, off3 S (lpS S' 536 (nI s) nr i) := by
    intro i
    induction i with
    | zero => exact h
    | succ i ih => exact off3_A ih rfl
  exact off3_A (g nr) rfl
theorem off3_cp {S S' : Sx} (h : off3 S S') : ∀ i, off3 S (cpS S' 535 536 i)
  | 0 => h
  | i + 1 => off3_A (off3_cp h i) rfl
theorem off3_yl {S S' : Sx} (h : off3 S S') (nr s : Nat) : off3 S (ylS S' nr s) := by
  unfold ylS
  split
  · split
    · exact off3_dr h
    · exact off3_F (off3_lp (off3_dr h) s nr) rfl
  · exact h
theorem off3_ylN {S S' : Sx} (h : off3 S S') (nr : Nat) : ∀ s, off3 S (ylN S' nr s)
  | 0 => h
  | s + 1 => off3_yl (off3_ylN h nr s) nr s
theorem off3_yc {S S' : Sx} (h : off3 S S') (nr np : Nat) (ow : Nat → Nat) (m : Nat) (wv : Nat → Nat × Nat) : off3 S (ycS S' nr np ow m wv) := by
  unfold ycS
  split
  · split
    · exact off3_A (off3_A (off3_dr (off3_dr h)) rfl) rfl
    · exact off3_dr (off3_dr h)
  · exact h
theorem off3_yr {S S' : Sx} (h : off3 S S') (ns nr np : Nat) (ow : Nat → Nat) (m : Nat) (wv : Nat → Nat × Nat) : ∀ k, off3 S (yrN S' ns nr np ow m wv k)
  | 0 => h
  | k + 1 => off3_dy (off3_yc (off3_ylN (off3_yr h ns nr np ow m wv k) nr ns) nr np ow m wv) nr
theorem off3_y0 {S S' : Sx} (h : off3 S S') (x : Int32) : off3 S (yr0 S' x) := off3_F (off3_F (off3_cp h 45) rfl) rfl
theorem r_X11_draw {g : Gp} {S : Sx} {n : Nat} (hn : 0 < n) (h9 : n < 100) : RT g mX11_draw 0 [.ref 59, .int (nI n)] S (some (.int (nI (drN S n)))) (drS S) := by
  refine RT_ofQ ⟨rfl, rfl⟩ (Nat.le_of_ble_eq_true rfl) (fun sz Q hQ => ?_)
  refine J_aload_n (pc := 0) dX11_draw_0 rfl ?_
  refine J_aload_n (pc := 1) dX11_draw_1 rfl ?_
  refine J_geti (pc := 2) dX11_draw_2 kc11 fl_X11_388 rfl ?_
  refine J_ldcw (pc := 5) (v := 1103515245) dX11_draw_5 kt_X11_391 ?_
  refine J_imul (pc := 8) dX11_draw_8 ?_
  refine J_sipush (pc := 9) (v := 12345) dX11_draw_9 (by decide) ?_
  refine J_iadd (pc := 12) dX11_draw_12 ?_
  refine J_puti (pc := 13) dX11_draw_13 kc11 fl_X11_388 rfl ⟨rfl, rfl⟩ ?_
  refine J_aload_n (pc := 16) dX11_draw_16 rfl ?_
  refine J_geti (pc := 17) dX11_draw_17 kc11 fl_X11_388 rfl ?_
  refine J_bipush (pc := 20) (v := 16) dX11_draw_20 (by decide) ?_
  refine J_ishr (pc := 22) dX11_draw_22 ?_
  refine J_sipush (pc := 23) (v := 32767) dX11_draw_23 (by decide) ?_
  refine J_iand (pc := 26) dX11_draw_26 ?_
  refine J_t1 (y := nI ((sf (drS S) 59 47 >>> ((16 : Int32) &&& 31)).toBitVec.toNat % 2 ^ 15)) (pk_and _ 15 rfl) ?_
  refine J_iload_n (pc := 27) dX11_draw_27 rfl ?_
  refine J_irem (pc := 28) dX11_draw_28 (nI_ne0 hn (by omega)) ?_
  refine J_t1 (pk_rem (by have := Nat.mod_lt ((sf (drS S) 59 47 >>> ((16 : Int32) &&& 31)).toBitVec.toNat) (show 2 ^ 15 > 0 by decide); omega) hn (by omega)) ?_
  exact J_iret (pc := 29) rfl rfl rfl dX11_draw_29 (rq hQ (by first | rfl | simp [bI, *] | simp_all [bI]) rfl)
theorem drN_w1 (S T : Sx) (n : Nat) : drN (w1 S T) n = drN S n := by unfold drN; rfl
theorem drN_lt {S : Sx} {n : Nat} (h : 0 < n) : drN S n < n := Nat.mod_lt _ h
theorem r_X11_yearBy {g : Gp} {S : Sx} {x : Int32} {days : Nat} {ns nr np m : Nat} {ow : Nat → Nat} {wv : Nat → Nat × Nat} (hH : MH S ns nr np ow) (hW : LawW m wv) (hM : LawM S m wv) (hd : days ≤ 96) : RW g mX11_yearBy 9 [.ref 59, .int x, .int (nI days)] S none (yrN (yr0 S x) ns nr np ow m wv days) := by
  refine RW_ofQ ⟨rfl, rfl⟩ (Nat.le_of_ble_eq_true rfl) (fun T sz Q hQ => ?_)
  have hH' := hH
  obtain ⟨e0, e1, e2, l0, l1, l2, ho⟩ := hH'
  refine J_aload_n (pc := 0) dX11_yearBy_0 rfl ?_
  refine J_getr (pc := 1) dX11_yearBy_1 kc11 fl_X11_73 rfl ?_
  refine J_aload_n (pc := 4) dX11_yearBy_4 rfl ?_
  refine J_getr (pc := 5) dX11_yearBy_5 kc11 fl_X11_76 rfl ?_
  refine J_csv (pc := 8) (N := mX11_copies) dX11_yearBy_8 ml_X11_325 cf_X11_copies cs_X11_copies (r_X11_copies (S := w1 S T) row536 row535) rfl rfl (Nat.le_of_ble_eq_true rfl) (by decide) ?_
  refine J_cg2 (cpS_w1 _ _ _ _ _) ?_
  refine J_aload_n (pc := 11) dX11_yearBy_11 rfl ?_
  refine J_iload_n (pc := 12) dX11_yearBy_12 rfl ?_
  refine J_putiw (pc := 13) dX11_yearBy_13 kc11 fl_X11_388 rfl ⟨rfl, rfl⟩ ?_
  refine J_aload_n (pc := 16) dX11_yearBy_16 rfl ?_
  refine J_iconst (pc := 17) (v := 0) dX11_yearBy_17 (by decide) ?_
  refine J_putiw (pc := 18) dX11_yearBy_18 kc11 fl_X11_392 rfl ⟨rfl, rfl⟩ ?_
  refine J_iconst (pc := 21) (v := 0) dX11_yearBy_21 (by decide) ?_
  refine J_istore_n (pc := 22) dX11_yearBy_22 (by decide) rfl ?_
  obtain ⟨X, hX⟩ : ∃ X, X = yr0 S x := ⟨_, rfl⟩
  have hofX : off3 S X := by rw [hX]; exact off3_y0 (off3_r S) x
  refine J_cg2 (S' := w1 X T) (by rw [hX]; rfl) ?_
  rw [← hX] at hQ
  clear hX
  show J g mX11_yearBy 9 [] 23 [some (.ref 59), some (.int x), some (.int (nI days)), some (.int (ix 0)), none] [] (hs (w1 X T)) sz 0 0 Q
  refine dn_ind (n := days) (P := fun i => ∀ T, J g mX11_yearBy 9 [] 23 [some (.ref 59), some (.int x), some (.int (nI days)), some (.int (ix i)), none] [] (hs (w1 (yrN X ns nr np ow m wv i) T)) sz 0 0 Q) ?_ (fun i hi ih => ?_) 0 (Nat.zero_le _) _
  · intro T
    refine J_iload_n (pc := 23) dX11_yearBy_23 rfl ?_
    refine J_iload_n (pc := 24) dX11_yearBy_24 rfl ?_
    refine J_icmp_ge (pc := 25) (tgt := 169) dX11_yearBy_25 (by decide) (fun c25 => ?_) (fun c25 => absurd (ix_ge rfl) c25)
    exact J_ret (pc := 169) rfl rfl dX11_yearBy_169 (rqvw hQ rfl)
  · intro T
    have hofY := off3_yr hofX ns nr np ow m wv i
    obtain ⟨Y, hY⟩ : ∃ Y, Y = yrN X ns nr np ow m wv i := ⟨_, rfl⟩
    have hY1 : yrN X ns nr np ow m wv (i + 1) = dyE (ycS (ylN Y nr ns) nr np ow m wv) 536 nr := by rw [hY]; rfl
    rw [← hY] at hofY ⊢
    rw [hY1] at ih
    have ih0 := ih
    clear ih
    have fin : ∀ Z1, ycS (ylN Y nr ns) nr np ow m wv = Z1 → ∀ T, J g mX11_yearBy 9 [] 155 [some (.ref 59), some (.int x), some (.int (nI days)), some (.int (ix i)), none] [] (hs (w1 Z1 T)) sz 0 0 Q := by
      intro Z1 hZ1 T
      have hof1 : off3 S Z1 := by rw [← hZ1]; exact off3_yc (off3_ylN hofY nr ns) nr np ow m wv
      have hHz := off3_MH hof1 hH
      refine J_aload_n (pc := 155) dX11_yearBy_155 rfl ?_
      refine J_aload_n (pc := 156) dX11_yearBy_156 rfl ?_
      refine J_getr (pc := 157) dX11_yearBy_157 kc11 fl_X11_76 rfl ?_
      refine J_cvv (pc := 160) (N := mX11_dayEnds) dX11_yearBy_160 ml_X11_308 cf_X11_dayEnds cv_X11_dayEnds (r_X11_dayEnds (S := w1 Z1 T) row536 hHz) rfl rfl (Nat.le_of_ble_eq_true rfl) (by decide) (rv_of (ci := 11) rfl rfl rfl) ?_
      refine J_cg2 (dyE_w1 _ _ _ _) ?_
      refine J_iinc (pc := 163) (v := 1) dX11_yearBy_163 rfl (by decide) rfl ?_
      refine J_goto (pc := 166) (tgt := 23) dX11_yearBy_166 (by decide) ?_
      rw [← hZ1]
      exact ih0 T
    refine J_iload_n (pc := 23) dX11_yearBy_23 rfl ?_
    refine J_iload_n (pc := 24) dX11_yearBy_24 rfl ?_
    refine J_icmp_ge (pc := 25) (tgt := 169) dX11_yearBy_25 (by decide) (fun c25 => absurd c25 (ix_lt rfl hi (by omega))) (fun c25 => ?_)
    refine J_iconst (pc := 28) (v := 0) dX11_yearBy_28 (by decide) ?_
    refine J_istore (pc := 29) dX11_yearBy_29 (by decide) rfl ?_
    show J g mX11_yearBy 9 [] 31 [some (.ref 59), some (.int x), some (.int (nI days)), some (.int (ix i)), some (.int (ix 0))] [] (hs (w1 (ylN Y nr 0) T)) sz 0 0 Q
    refine dn_ind (n := ns) (P := fun j => ∀ T, J g mX11_yearBy 9 [] 31 [some (.ref 59), some (.int x), some (.int (nI days)), some (.int (ix i)), some (.int (ix j))] [] (hs (w1 (ylN Y nr j) T)) sz 0 0 Q) ?_ (fun j hj ih => ?_) 0 (Nat.zero_le _) _
    · intro T
      have hofj := off3_ylN hofY nr ns
      have hHj := off3_MH hofj hH
      have hMj := off3_LawM hofj hW hM
      obtain ⟨Z, hZ⟩ : ∃ Z, Z = ylN Y nr ns := ⟨_, rfl⟩
      have hE : dyE (ycS Z nr np ow m wv) 536 nr = ydS Y ns nr np ow m wv := by rw [hZ]; rfl
      rw [← hZ] at hofj hHj hMj ⊢
      refine J_iload (pc := 31) dX11_yearBy_31 rfl ?_
      refine J_aload_n (pc := 33) dX11_yearBy_33 rfl ?_
      refine J_getr (pc := 34) dX11_yearBy_34 kc11 fl_X11_23 rfl ?_
      refine J_iconst (pc := 37) (v := 0) dX11_yearBy_37 (by decide) ?_
      refine J_il (pc := 38) dX11_yearBy_38 (by first | rfl | assumption) (rfl : (0 : Int32) = nI 0) ⟨by first | decide | omega, by decide⟩ ?_
      refine J_icmp_ge (pc := 39) (tgt := 104) dX11_yearBy_39 (by decide) (fun c39 => ?_) (fun c39 => absurd (ix_ge hHj.1) c39)
      refine J_aload_n (pc := 104) dX11_yearBy_104 rfl ?_
      refine J_getr (pc := 105) dX11_yearBy_105 kc11 fl_X11_23 rfl ?_
      refine J_iconst (pc := 108) (v := 1) dX11_yearBy_108 (by decide) ?_
      refine J_il (pc := 109) dX11_yearBy_109 (by first | rfl | assumption) (rfl : (1 : Int32) = nI 1) ⟨by first | decide | omega, by decide⟩ ?_
      refine J_t1 hHj.2.1 ?_
      refine J_if_le (pc := 110) (tgt := 155) dX11_yearBy_110 (by decide) (fun c110 => ?_) (fun c110 => ?_)
      · have hy : ycS Z nr np ow m wv = Z := by unfold ycS; rw [if_neg (fun q => (nI_nle q.1 (by omega)) c110)]
        exact J_forget (fun k u hu => by rcases k with _ | _ | _ | _ | _ | k <;> first | exact hu | (simp at hu)) (fin Z (by rw [← hZ]; exact hy) T)
      · have n1 : 0 < nr := Nat.pos_of_ne_zero (fun q => c110 (by rw [q]; decide))
        refine J_aload_n (pc := 113) dX11_yearBy_113 rfl ?_
        refine J_getr (pc := 114) dX11_yearBy_114 kc11 fl_X11_23 rfl ?_
        refine J_iconst (pc := 117) (v := 2) dX11_yearBy_117 (by decide) ?_
        refine J_il (pc := 118) dX11_yearBy_118 (by first | rfl | assumption) (rfl : (2 : Int32) = nI 2) ⟨by first | decide | omega, by decide⟩ ?_
        refine J_t1 hHj.2.2.1 ?_
        refine J_if_le (pc := 119) (tgt := 155) dX11_yearBy_119 (by decide) (fun c119 => ?_) (fun c119 => ?_)
        · have hy : ycS Z nr np ow m wv = Z := by unfold ycS; rw [if_neg (fun q => (nI_nle q.2 (by omega)) c119)]
          exact J_forget (fun k u hu => by rcases k with _ | _ | _ | _ | _ | k <;> first | exact hu | (simp at hu)) (fin Z (by rw [← hZ]; exact hy) T)
        · have n2 : 0 < np := Nat.pos_of_ne_zero (fun q => c119 (by rw [q]; decide))
          refine J_aload_n (pc := 122) dX11_yearBy_122 rfl ?_
          refine J_aload_n (pc := 123) dX11_yearBy_123 rfl ?_
          refine J_getr (pc := 124) dX11_yearBy_124 kc11 fl_X11_23 rfl ?_
          refine J_iconst (pc := 127) (v := 1) dX11_yearBy_127 (by decide) ?_
          refine J_il (pc := 128) dX11_yearBy_128 (by first | rfl | assumption) (rfl : (1 : Int32) = nI 1) ⟨by first | decide | omega, by decide⟩ ?_
          refine J_t1 hHj.2.1 ?_
          refine J_cvr (pc := 129) (N := mX11_draw) dX11_yearBy_129 ml_X11_395 cf_X11_draw cv_X11_draw (r_X11_draw (S := w1 Z T) n1 (by omega)) rfl rfl (Nat.le_of_ble_eq_true rfl) (by decide) (rv_of (ci := 11) rfl rfl rfl) ?_
          refine J_cg2 (S' := w1 (drS Z) T) rfl ?_
          refine J_t1 (congrArg nI (drN_w1 Z T nr)) ?_
          refine J_istore (pc := 132) dX11_yearBy_132 (by decide) rfl ?_
          refine J_aload_n (pc := 134) dX11_yearBy_134 rfl ?_
          refine J_aload_n (pc := 135) dX11_yearBy_135 rfl ?_
          refine J_getr (pc := 136) dX11_yearBy_136 kc11 fl_X11_76 rfl ?_
          refine J_iload (pc := 139) dX11_yearBy_139 rfl ?_
          refine J_aload_n (pc := 141) dX11_yearBy_141 rfl ?_
          refine J_aload_n (pc := 142) dX11_yearBy_142 rfl ?_
          refine J_getr (pc := 143) dX11_yearBy_143 kc11 fl_X11_23 rfl ?_
          refine J_iconst (pc := 146) (v := 2) dX11_yearBy_146 (by decide) ?_
          refine J_il (pc := 147) dX11_yearBy_147 (by first | rfl | assumption) (rfl : (2 : Int32) = nI 2) ⟨by first | decide | omega, by decide⟩ ?_
          refine J_t1 hHj.2.2.1 ?_
          refine J_cvr (pc := 148) (N := mX11_draw) dX11_yearBy_148 ml_X11_395 cf_X11_draw cv_X11_draw (r_X11_draw (S := w1 (drS Z) T) n2 (by omega)) rfl rfl (Nat.le_of_ble_eq_true rfl) (by decide) (rv_of (ci := 11) rfl rfl rfl) ?_
          refine J_cg2 (S' := w1 (drS (drS Z)) T) rfl ?_
          refine J_t1 (congrArg nI (drN_w1 (drS Z) T np)) ?_
          have hof2 := off3_dr (off3_dr hofj)
          have hH2 := off3_MH hof2 hH
          have hM2 := off3_LawM hof2 hW hM
          have hr2 : drN Z nr < nr := drN_lt n1
          have hp2 : drN (drS Z) np < np := drN_lt n2
          by_cases hc : mcC (drS (drS Z)) nr ow m wv (drN Z nr) (drN (drS Z) np)
          · have hy : ycS Z nr np ow m wv = cuS (drS (drS Z)) (drN Z nr) (drN (drS Z) np) := by unfold ycS; rw [if_pos ⟨n1, n2⟩, if_pos hc]
            refine J_cvw (pc := 151) (N := mX11_cures) dX11_yearBy_151 ml_X11_305 cf_X11_cures cv_X11_cures (r_X11_cures_t (S := drS (drS Z)) (r := drN Z nr) (p := drN (drS Z) np) row536 hH2 hW hM2 hr2 hp2 hc) rfl rfl (Nat.le_of_ble_eq_true rfl) (by decide) (rv_of (ci := 11) rfl rfl rfl) ?_
            intro T
            refine J_pop (pc := 154) dX11_yearBy_154 rfl ?_
            exact J_forget (fun k u hu => by rcases k with _ | _ | _ | _ | _ | k <;> first | exact hu | (simp at hu)) (fin (cuS (drS (drS Z)) (drN Z nr) (drN (drS Z) np)) (by rw [← hZ]; exact hy) T)
          · have hy : ycS Z nr np ow m wv = drS (drS Z) := by unfold ycS; rw [if_pos ⟨n1, n2⟩, if_neg hc]
            refine J_cvw (pc := 151) (N := mX11_cures) dX11_yearBy_151 ml_X11_305 cf_X11_cures cv_X11_cures (r_X11_cures_f (S := drS (drS Z)) (r := drN Z nr) (p := drN (drS Z) np) row536 hH2 hW hM2 hr2 hp2 hc) rfl rfl (Nat.le_of_ble_eq_true rfl) (by decide) (rv_of (ci := 11) rfl rfl rfl) ?_
            intro T
            refine J_pop (pc := 154) dX11_yearBy_154 rfl ?_
            exact J_forget (fun k u hu => by rcases k with _ | _ | _ | _ | _ | k <;> first | exact hu | (simp at hu)) (fin (drS (drS Z)) (by rw [← hZ]; exact hy) T)
    · intro T
      have hofj := off3_ylN hofY nr j
      have hHj := off3_MH hofj hH
      obtain ⟨Z, hZ⟩ : ∃ Z, Z = ylN Y nr j := ⟨_, rfl⟩
      have hZ1 : ylN Y nr (j + 1) = ylS Z nr j := by rw [hZ]; rfl
      rw [← hZ] at hofj hHj ⊢
      rw [hZ1] at ih
      refine J_iload (pc := 31) dX11_yearBy_31 rfl ?_
      refine J_aload_n (pc := 33) dX11_yearBy_33 rfl ?_
      refine J_getr (pc := 34) dX11_yearBy_34 kc11 fl_X11_23 rfl ?_
      refine J_iconst (pc := 37) (v := 0) dX11_yearBy_37 (by decide) ?_
      refine J_il (pc := 38) dX11_yearBy_38 (by first | rfl | assumption) (rfl : (0 : Int32) = nI 0) ⟨by first | decide | omega, by decide⟩ ?_
      refine J_icmp_ge (pc := 39) (tgt := 104) dX11_yearBy_39 (by decide) (fun c39 => absurd c39 (ix_lt hHj.1 hj (by omega))) (fun c39 => ?_)
      refine J_aload_n (pc := 42) dX11_yearBy_42 rfl ?_
      refine J_aload_n (pc := 43) dX11_yearBy_43 rfl ?_
      refine J_getr (pc := 44) dX11_yearBy_44 kc11 fl_X11_76 rfl ?_
      refine J_iload (pc := 47) dX11_yearBy_47 rfl ?_
      refine J_t1 (ix_nI j) ?_
      refine J_cvr (pc := 49) (N := mX11_canLapse) dX11_yearBy_49 ml_X11_296 cf_X11_canLapse cv_X11_canLapse (r_X11_canLapse (S := w1 Z T) row536 hHj hj) rfl rfl (Nat.le_of_ble_eq_true rfl) (by decide) (rv_of (ci := 11) rfl rfl rfl) ?_
      refine J_ifp_eq (pc := 52) (tgt := 98) dX11_yearBy_52 (by decide) (fun c52 => ?_) (fun c52 => ?_)
      · rw [show ylS Z nr j = Z from if_neg c52] at ih
        skip
        refine J_iinc (pc := 98) (v := 1) dX11_yearBy_98 rfl (by decide) rfl ?_
        refine J_goto (pc := 101) (tgt := 31) dX11_yearBy_101 (by decide) ?_
        exact ih T
      · refine J_aload_n (pc := 55) dX11_yearBy_55 rfl ?_
        refine J_bipush (pc := 56) (v := 16) dX11_yearBy_56 (by decide) ?_
        refine J_st (st' := [.int (nI 16), .ref 59]) rfl ?_
        refine J_cvr (pc := 58) (N := mX11_draw) dX11_yearBy_58 ml_X11_395 cf_X11_draw cv_X11_draw (r_X11_draw (S := w1 Z T) (n := 16) (by decide) (by decide)) rfl rfl (Nat.le_of_ble_eq_true rfl) (by decide) (rv_of (ci := 11) rfl rfl rfl) ?_
        refine J_cg2 (S' := w1 (drS Z) T) rfl ?_
        refine J_t1 (congrArg nI (drN_w1 Z T 16)) ?_
        refine J_aload_n (pc := 61) dX11_yearBy_61 rfl ?_
        refine J_getr (pc := 62) dX11_yearBy_62 kc11 fl_X11_29 rfl ?_
        refine J_iload (pc := 65) dX11_yearBy_65 rfl ?_
        refine J_il (pc := 67) dX11_yearBy_67 (by first | rfl | assumption) (by first | with_reducible rfl | assumption | exact ix_nI _ | rfl) ⟨by first | decide | omega, by decide⟩ ?_
        refine J_icmp_ge (pc := 68) (tgt := 98) dX11_yearBy_68 (by decide) (fun c68 => ?_) (fun c68 => ?_)
        · rw [show ylS Z nr j = drS Z from (if_pos c52).trans (if_pos c68)] at ih
          skip
          refine J_iinc (pc := 98) (v := 1) dX11_yearBy_98 rfl (by decide) rfl ?_
          refine J_goto (pc := 101) (tgt := 31) dX11_yearBy_101 (by decide) ?_
          exact ih T
        · rw [show ylS Z nr j = sF (lpE (drS Z) 536 j nr) 59 48 (sf Z 59 48 + 1) from (if_pos c52).trans (if_neg c68)] at ih
          refine J_aload_n (pc := 71) dX11_yearBy_71 rfl ?_
          refine J_dup (pc := 72) dX11_yearBy_72 rfl ?_
          refine J_geti (pc := 73) dX11_yearBy_73 kc11 fl_X11_392 rfl ?_
          refine J_aload_n (pc := 76) dX11_yearBy_76 rfl ?_
          refine J_aload_n (pc := 77) dX11_yearBy_77 rfl ?_
          refine J_getr (pc := 78) dX11_yearBy_78 kc11 fl_X11_76 rfl ?_
          refine J_iload (pc := 81) dX11_yearBy_81 rfl ?_
          refine J_t1 (ix_nI j) ?_
          refine J_cvr (pc := 83) (N := mX11_lapses) dX11_yearBy_83 ml_X11_302 cf_X11_lapses cv_X11_lapses (r_X11_lapses_t (S := w1 (drS Z) T) row536 (off3_MH (off3_dr hofj) hH) hj c52) rfl rfl (Nat.le_of_ble_eq_true rfl) (by decide) (rv_of (ci := 11) rfl rfl rfl) ?_
          refine J_cg2 (lpE_w1 _ _ _ _ _) ?_
          refine J_if_eq (pc := 86) (tgt := 93) dX11_yearBy_86 (by decide) (fun c86 => absurd c86 (by decide)) (fun c86 => ?_)
          refine J_iconst (pc := 89) (v := 1) dX11_yearBy_89 (by decide) ?_
          refine J_goto (pc := 90) (tgt := 94) dX11_yearBy_90 (by decide) ?_
          refine J_iadd (pc := 94) dX11_yearBy_94 ?_
          refine J_putiw (pc := 95) dX11_yearBy_95 kc11 fl_X11_392 rfl ⟨rfl, rfl⟩ ?_
          skip
          refine J_iinc (pc := 98) (v := 1) dX11_yearBy_98 rfl (by decide) rfl ?_
          refine J_goto (pc := 101) (tgt := 31) dX11_yearBy_101 (by decide) ?_
          exact ih T
