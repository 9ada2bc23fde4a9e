/-! ===== the model's work, with the one row that it keeps ===== -/
def wgB (w a : Nat) : Bool := pfA a || a == 535 || a == 538 + w
theorem pf_wgw (w : Nat) : ∀ a, pfA a = true → wgB w a = true := fun a h => by unfold wgB; rw [h]; rfl
theorem wgw_o (w : Nat) : wgB w (538 + w) = true := by unfold wgB; simp
theorem wgw_5 (w : Nat) : wgB w 535 = true := by unfold wgB; simp
theorem wgw_gx {S X : Sx} {A : AX} {w : Nat} (h : FRL wgF (wgB w) S X) : FRL wgF (wgB w) S (gxS X A) := ⟨⟨fun a k q => by
  have : FRL wgF (wgB w) S (sF (sF (sF X 59 40 (nI A.2.1)) 59 41 (nI A.2.2.1)) 59 37 (nI A.2.2.2)) := FRL_F (FRL_F (FRL_F h rfl) rfl) rfl
  exact this.1.1 a k q, h.1.2.1, fun a q => (gx_o (fun z => by subst z; rw [wgw_5] at q; cases q)).trans (h.1.2.2 a q)⟩, h.2⟩
theorem wgw_cp {S X : Sx} {w : Nat} (h : FRL wgF (wgB w) S X) : ∀ i, FRL wgF (wgB w) S (cpS X 535 (538 + w) i)
  | 0 => h
  | i + 1 => FRL_A (wgw_cp h i) (wgw_o w)
theorem r_X11_workw {g : Gp} {S : Sx} {n tp : Nat} (ht : sf S 59 1 = nI tp) (h6 : tp ≤ 600) (hnt : n ≤ tp) (hn1 : n ≤ 150) {f w m F : Nat} {wv : Nat → Nat × Nat} {d : HD} {cc : Nat → Nat} {r : WS} (hG : HG S d) (hV : HV d) (hW : LawW m wv) (hL : LawM S m wv) (hw : sf S 59 36 = nI w) (hw16 : w < 16) (hF : FD S n cc) (hr : rs cc n (dNs d) (dNr d) (dNp d) f 1 0 ((pbl cc n 0, 0, 0), []) = some r) (hb : r.1.2.1 = 0) (hS : SG d r.2 F 0 0 r.2.length) : RI g mX11_work 18 [.ref 59, .int (nI n)] S (fun x X => x = nI (gos (doA d m wv) r.2 F 0 r.2.length (sa S 535, 0, 0, 0)).2.2.1 ∧ FRL wgF (wgB w) (S0 S) X ∧ sf X 59 1 = 0 ∧ sf X 59 3 = -1 ∧ (∀ k, k < 45 → sa X (538 + w) k = sa S 535 k) ∧ sf X 59 36 = nI (w + 1) ∧ sf X 59 37 = nI (gos (doA d m wv) r.2 F 0 r.2.length (sa S 535, 0, 0, 0)).2.2.2 ∧ sa X 535 = (gos (doA d m wv) r.2 F 0 r.2.length (sa S 535, 0, 0, 0)).1) := by
  refine RI_ofQ ⟨rfl, rfl⟩ (Nat.le_of_ble_eq_true rfl) (fun sz Q hQ => ?_)
  have hH := HG_MH hG hV
  have hx := FD_TX hF
  have hx2 : TX (sF (stS (S0 S) n) 59 30 0) n cc := hx
  have p0 : PO n ((pbl cc n 0, 0, 0) : PT) := ⟨pbl_le cc (Nat.zero_le _), by show 0 ≤ 3; omega, Nat.zero_le _⟩
  have hT : TLD (sF (stS (S0 S) n) 59 30 0) (dNs d) (dNr d) (dNp d) := ⟨hH.1, hH.2.1, hH.2.2.1, hH.2.2.2.1, hH.2.2.2.2.1, hH.2.2.2.2.2.1⟩
  have hfr0 : FRL wkF pfA (S0 S) (sF (stS (S0 S) n) 59 30 0) := FRL_F (FRL_mono (FRL_st (A := pfA) (S0 S) n) (imp_f2 pf_wk) (fun _ q => q)) rfl
  have hst := RST_rs hx2 f 1 0 ((pbl cc n 0, 0, 0), []) r (by decide) p0 (fun q => nomatch q) hr
  refine J_aload_n (pc := 0) dX11_work_0 rfl ?_
  refine J_iconst (pc := 1) (v := 0) dX11_work_1 (by decide) ?_
  refine J_puti (pc := 2) dX11_work_2 kc11 fl_X11_103 rfl ⟨rfl, rfl⟩ ?_
  refine J_aload_n (pc := 5) dX11_work_5 rfl ?_
  refine J_iload_n (pc := 6) dX11_work_6 rfl ?_
  refine J_iconst (pc := 7) (v := 0) dX11_work_7 (by decide) ?_
  refine J_aload_n (pc := 8) dX11_work_8 rfl ?_
  refine J_geti (pc := 9) dX11_work_9 kc11 fl_X11_106 rfl ?_
  refine J_t1 ht ?_
  refine J_csr (pc := 12) (N := mX11_in) dX11_work_12 ml_X11_137 cf_X11_in cs_X11_in r_X11_in rfl rfl (Nat.le_of_ble_eq_true rfl) (by decide) ?_
  refine J_ifp_eq (pc := 15) (tgt := 25) dX11_work_15 (by decide) (fun c15 => absurd (inw2 (a := 0) (b := tp) rfl rfl (Nat.zero_le _) hnt (by omega)) c15) (fun c15 => ?_)
  refine J_iload_n (pc := 18) dX11_work_18 rfl ?_
  refine J_sipush (pc := 19) (v := 150) dX11_work_19 (by decide) ?_
  refine J_icmp_le (pc := 22) (tgt := 29) dX11_work_22 (by decide) (fun c22 => ?_) (fun c22 => absurd ((nI_leI (b := 150) (by omega) (by decide)).mpr hn1) c22)
  refine J_iconst (pc := 29) (v := 0) dX11_work_29 (by decide) ?_
  refine J_iconst (pc := 30) (v := 1) dX11_work_30 (by decide) ?_
  refine J_iconst (pc := 31) (v := 1) dX11_work_31 (by decide) ?_
  refine J_cvr (pc := 32) (N := mX11_bad) dX11_work_32 ml_X11_183 cf_X11_bad cv_X11_bad (r_X11_bad_f rfl) rfl rfl (Nat.le_of_ble_eq_true rfl) (by decide) (rv_of (ci := 11) rfl rfl rfl) ?_
  refine J_if_eq (pc := 35) (tgt := 40) dX11_work_35 (by decide) (fun c35 => ?_) (fun c35 => absurd rfl c35)
  refine J_aload_n (pc := 40) dX11_work_40 rfl ?_
  refine J_geti (pc := 41) dX11_work_41 kc11 fl_X11_206 rfl ?_
  refine J_t1 (y := nI w) hw ?_
  refine J_bipush (pc := 44) (v := 16) dX11_work_44 (by decide) ?_
  refine J_icmp_ne (pc := 46) (tgt := 62) dX11_work_46 (by decide) (fun c46 => ?_) (fun c46 => absurd c46 (fun z => absurd ((nI_eq (b := 16) (by omega) (by decide)).mp (z.trans rfl)) (by omega)))
  refine J_aload_n (pc := 62) dX11_work_62 rfl ?_
  refine J_iload_n (pc := 63) dX11_work_63 rfl ?_
  refine J_cvv (pc := 64) (N := mX11_starts) dX11_work_64 ml_X11_187 cf_X11_starts cv_X11_starts (r_X11_starts (S := S0 S) hx) rfl rfl (Nat.le_of_ble_eq_true rfl) (by decide) (rv_of (ci := 11) rfl rfl rfl) ?_
  refine J_aload_n (pc := 67) dX11_work_67 rfl ?_
  refine J_iconst (pc := 68) (v := 0) dX11_work_68 (by decide) ?_
  refine J_puti (pc := 69) dX11_work_69 kc11 fl_X11_257 rfl ⟨rfl, rfl⟩ ?_
  refine J_cg2 (ps_sF _ _ (by decide) (by decide) (by decide)) ?_
  refine work_loop (B := sF (stS (S0 S) n) 59 30 0) hx2 hT hn1 f (sF (stS (S0 S) n) 59 30 0) ((pbl cc n 0, 0, 0), []) r (FRL_r _ _ _) rfl ⟨p0, fun _ => Nat.zero_le _⟩ (fun _ => ⟨rfl, fun i hi => absurd hi (Nat.not_lt_zero i)⟩) hr (fun Y hO h8 hM => ?_)
  have hfr : FRL wkF pfA (S0 S) Y := FRL_t hfr0 (FRL_mono hO (imp_f2 stF_wk) (imp_f stA_pf))
  have h1z : sf Y 59 1 = 0 := (hO.1.1 59 1 rfl).trans rfl
  obtain ⟨m1, m2⟩ := hM hb
  have hr150 := (hst.2 hb).2.2.1
  have hlen : r.2.length ≤ 80 := by have := hst.1.1; have : (([] : List Q4)).length = 0 := rfl; dsimp only at *; omega
  have h535 : sa Y 535 = sa S 535 := hfr.1.2.2 535 rfl
  have hfr2 : FRL wgF (wgB w) (S0 S) Y := FRL_mono hfr (imp_f2 wk_wg) (imp_f (pf_wgw w))
  have h36 : sf Y 59 36 = nI w := (hfr.1.1 59 36 rfl).trans hw
  have hGY : HG Y d := by
    have e : ∀ a, hgR a = true → sa Y a = sa S a := fun a h => hfr.1.2.2 a (hgR_pf a h)
    exact HG_cg hG hV e
  have hLY : LawM Y m wv := ⟨(hfr.1.1 59 21 rfl).trans hL.1, fun k hk => by
    have := hW.1
    rw [hfr.1.2.2 (109 + k) (lawA_pf k (by omega))]
    exact hL.2 k hk⟩
  have hSL : STL Y r.2 := ⟨hlen, fun i hi => ⟨m2 i hi, (m2 i hi).2.2.2 (SG_e hS i (Nat.zero_le _) hi)⟩⟩
  refine J_aload_n (pc := 101) dX11_work_101 rfl ?_
  refine J_geti (pc := 102) dX11_work_102 kc11 fl_X11_119 rfl ?_
  refine J_t1 (y := nI r.1.2.1) rfl ?_
  refine J_if_eq (pc := 105) (tgt := 113) dX11_work_105 (by decide) (fun c105 => ?_) (fun c105 => absurd (show nI r.1.2.1 = 0 by rw [hb]; rfl) c105)
  refine J_aload_n (pc := 113) dX11_work_113 rfl ?_
  refine J_iconst (pc := 114) (v := -1) dX11_work_114 (by decide) ?_
  refine J_puti (pc := 115) dX11_work_115 kc11 fl_X11_9 rfl ⟨rfl, rfl⟩ ?_
  refine J_cg2 (ps_sF Y r.1 (by decide) (by decide) (by decide)) ?_
  obtain ⟨Z, hZ⟩ : ∃ Z, Z = ps (sF Y 59 3 (-1)) r.1 := ⟨_, rfl⟩
  have z1 : sf Z 59 1 = 0 := by rw [hZ]; exact h1z
  have z3 : sf Z 59 3 = -1 := by rw [hZ]; rfl
  have z36 : sf Z 59 36 = nI w := by rw [hZ]; exact h36
  have z30 : sf Z 59 30 = nI r.2.length := by rw [hZ]; exact m1
  have zG : HG Z d := by rw [hZ]; exact hGY
  have zL : LawM Z m wv := by rw [hZ]; exact hLY
  have zS : STL Z r.2 := by rw [hZ]; exact hSL
  have z535 : sa Z 535 = sa S 535 := by rw [hZ]; exact h535
  have zF : FRL wgF (wgB w) (S0 S) Z := by rw [hZ]; exact FRL_ps rfl rfl rfl (FRL_F hfr2 rfl)
  rw [← hZ]
  clear hZ
  refine J_aload_n (pc := 118) dX11_work_118 rfl ?_
  refine J_getr (pc := 119) dX11_work_119 kc11 fl_X11_73 rfl ?_
  refine J_aload_n (pc := 122) dX11_work_122 rfl ?_
  refine J_getr (pc := 123) dX11_work_123 kc11 fl_X11_79 rfl ?_
  refine J_aload_n (pc := 126) dX11_work_126 rfl ?_
  refine J_geti (pc := 127) dX11_work_127 kc11 fl_X11_206 rfl ?_
  refine J_ar1 (pc := 130) dX11_work_130 rfl z36 ⟨by omega, by decide⟩ ?_
  refine J_csv (pc := 131) (N := mX11_copies) dX11_work_131 ml_X11_325 cf_X11_copies cs_X11_copies (r_X11_copies (S := Z) (a := 538 + w) (b := 535) (row_before hw16) row535) rfl rfl (Nat.le_of_ble_eq_true rfl) (by decide) ?_
  have c1 : sf (cpS Z 535 (538 + w) 45) = sf Z := cpS_f Z 535 (538 + w) 45
  have c2 : ∀ b, b ≠ 538 + w → sa (cpS Z 535 (538 + w) 45) b = sa Z b := fun b hb => cpS_o Z hb 45
  have c3 : ∀ k, k < 45 → sa (cpS Z 535 (538 + w) 45) (538 + w) k = sa S 535 k := fun k hk => by rw [cpS_s Z (by omega), if_pos hk, z535]
  have c4 := wgw_cp zF 45
  obtain ⟨V, hVe⟩ : ∃ V, V = cpS Z 535 (538 + w) 45 := ⟨_, rfl⟩
  rw [← hVe] at c1 c2 c3 c4 ⊢
  clear hVe
  refine J_aload_n (pc := 134) dX11_work_134 rfl ?_
  refine J_dup (pc := 135) dX11_work_135 rfl ?_
  refine J_geti (pc := 136) dX11_work_136 kc11 fl_X11_206 rfl ?_
  refine J_t1 (y := nI w) ((congrFun (congrFun c1 59) 36).trans z36) ?_
  refine J_iconst (pc := 139) (v := 1) dX11_work_139 (by decide) ?_
  refine J_iadd (pc := 140) dX11_work_140 ?_
  refine J_t1 (y := nI (w + 1)) (nI_1 w) ?_
  refine J_puti (pc := 141) dX11_work_141 kc11 fl_X11_206 rfl ⟨rfl, rfl⟩ ?_
  refine J_aload_n (pc := 144) dX11_work_144 rfl ?_
  refine J_iconst (pc := 145) (v := 0) dX11_work_145 (by decide) ?_
  refine J_puti (pc := 146) dX11_work_146 kc11 fl_X11_312 rfl ⟨rfl, rfl⟩ ?_
  refine J_aload_n (pc := 149) dX11_work_149 rfl ?_
  refine J_iconst (pc := 150) (v := 0) dX11_work_150 (by decide) ?_
  refine J_puti (pc := 151) dX11_work_151 kc11 fl_X11_322 rfl ⟨rfl, rfl⟩ ?_
  refine J_aload_n (pc := 154) dX11_work_154 rfl ?_
  refine J_iconst (pc := 155) (v := 0) dX11_work_155 (by decide) ?_
  refine J_puti (pc := 156) dX11_work_156 kc11 fl_X11_209 rfl ⟨rfl, rfl⟩ ?_
  refine J_cg2 (S' := gxS (sF V 59 36 (nI (w + 1))) (sa V 535, 0, 0, 0)) (sAA_self _ 535).symm ?_
  refine J_cg2 (S' := w1 (gxS (sF V 59 36 (nI (w + 1))) (sa V 535, 0, 0, 0)) (gxS (sF V 59 36 (nI (w + 1))) (sa V 535, 0, 0, 0))) rfl ?_
  refine J_aload_n (pc := 159) dX11_work_159 rfl ?_
  refine J_iconst (pc := 160) (v := 0) dX11_work_160 (by decide) ?_
  refine J_aload_n (pc := 161) dX11_work_161 rfl ?_
  refine J_geti (pc := 162) dX11_work_162 kc11 fl_X11_257 rfl ?_
  refine J_t1 (y := nI r.2.length) (((congrFun (congrFun c1 59) 30)).trans z30) ?_
  refine J_cvx (pc := 165) (N := mX11_goes) dX11_work_165 ml_X11_315 cf_X11_goes cv_X11_goes (go_rw (go_j (S := sF V 59 36 (nI (w + 1))) (d := d) (m := m) (wv := wv) (l := r.2) (HG_cg zG hV (fun a h => c2 a (fun z => by subst z; exact absurd h (by rw [hgR_lo hw16]; decide)))) hV hW ⟨(congrFun (congrFun c1 59) 21).trans zL.1, fun k hk => by have := hW.1; rw [show sa (sF V 59 36 (nI (w + 1))) (109 + k) = sa Z (109 + k) from c2 _ (by omega)]; exact zL.2 k hk⟩ ⟨hlen, fun i hi => by rw [show STQ (sF V 59 36 (nI (w + 1))) i (r.2.getD i (0, 0, 0, 0)) = STQ Z i (r.2.getD i (0, 0, 0, 0)) by unfold STQ; rw [show sa (sF V 59 36 (nI (w + 1))) (455 + i) = sa Z (455 + i) from c2 _ (by omega)], show sa (sF V 59 36 (nI (w + 1))) (455 + i) = sa Z (455 + i) from c2 _ (by omega)]; exact zS.2 i hi⟩ F) (op := 0) (fr := 0) (to := r.2.length) (A := (sa V 535, 0, 0, 0)) (by decide) hS (Nat.le_refl _) (by show 0 ≤ 200; omega)) rfl rfl (Nat.le_of_ble_eq_true rfl) (by decide) (rv_of (ci := 11) rfl rfl rfl) ?_
  intro T
  have e5 : gos (doA d m wv) r.2 F 0 r.2.length (sa V 535, 0, 0, 0) = (gos (doA d m wv) r.2 F 0 r.2.length (sa S 535, 0, 0, 0)) := by rw [c2 535 (by omega), z535]
  refine J_aload_n (pc := 168) dX11_work_168 rfl ?_
  refine J_geti (pc := 169) dX11_work_169 kc11 fl_X11_322 rfl ?_
  exact J_iret (pc := 172) rfl rfl rfl dX11_work_172 (hQ _ _ ⟨by rw [← e5]; rfl, wg_w1 (wgw_gx (FRL_F c4 rfl)), (congrFun (congrFun c1 59) 1).trans z1, (congrFun (congrFun c1 59) 3).trans z3, fun k hk => (congrFun (gx_o (show 538 + w ≠ 535 by omega)) k).trans (c3 k hk), rfl, by rw [← e5]; rfl, by rw [← e5]; exact gx_row (sF V 59 36 (nI (w + 1))) (gos (doA d m wv) r.2 F 0 r.2.length (sa V 535, 0, 0, 0))⟩)
