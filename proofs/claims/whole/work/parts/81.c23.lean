/-! ===== work ===== -/
theorem CX_R {F : Nat → Nat → Bool} {A : Nat → Bool} {S X : Sx} {a b m : Nat} {d : HD} {wv : Nat → Nat × Nat} {f : Row} (hX : CX S 3 16 17 a b d m wv f) (hf : FRC F A S X) (h1 : ∀ k, 8 ≤ k → k ≤ 10 → F a k = false) (h2 : ∀ i, 1 ≤ i → i ≤ 8 → A (a + i) = false) (h3 : F b 2 = false) (h4 : A (b + 1) = false) (h5 : A 16 = false) : CX X 3 16 17 a b d m wv f := by
  obtain ⟨hCL, hHL, hLL, hp2, hp3, hHC, hv, hW, hLC, hRC⟩ := hX
  exact ⟨hCL, hHL, hLL, by rw [hf.1.2.1]; exact hp2, by rw [hf.1.2.1]; exact hp3, HC_F hHC hf h1 h2, hv, hW, ⟨(hf.1.1 b 2 h3).trans hLC.1, fun k hk => by rw [hf.1.2.2 (b + 1) h4]; exact hLC.2 k hk⟩, by rw [hf.1.2.2 16 h5]; exact hRC⟩
def wkG (x k : Nat) : Bool := wsG x k || x == 1 || (x == 32 && k == 3) || (x == 0 && k == 13)
def wkA (x : Nat) : Bool := wsA x || x == 16 || x == 33
theorem wk_a {a : Nat} (h : HLa a) : (∀ k, 8 ≤ k → k ≤ 10 → wkG a k = false) ∧ ∀ i, 1 ≤ i → i ≤ 8 → wkA (a + i) = false := by
  refine ⟨fun k k1 k2 => ?_, fun i i1 i2 => ?_⟩
  · unfold wkG wsG
    rcases h with rfl | rfl <;> simp
  · unfold wkA wsA
    rcases h with rfl | rfl <;> simp <;> omega
theorem wk_b {b : Nat} (h : LLa b) : wkG b 2 = false ∧ wkA (b + 1) = false := by rcases h with rfl | rfl <;> decide
theorem r_X10_work_full {g : Gp} {S : Sx} {n tp : Nat} (ht : sf S 1 1 = nI tp) (h6 : tp ≤ 600) (hnt : n ≤ tp) (hn1 : n ≤ 150) (hm : sf S 32 0 = nI 16) (hw : sf S 32 3 = nI 16) : RT g mX10_work 2 [.ref 0, .int (nI n)] S (some (.int (-20))) (ct (opS S n) (0, 0, 0, 0)) := by
  refine RT_ofQ ⟨rfl, rfl⟩ (Nat.le_of_ble_eq_true rfl) (fun sz Q hQ => ?_)
  refine J_aload_n (pc := 0) dX10_work_0 rfl ?_
  refine J_iload_n (pc := 1) dX10_work_1 rfl ?_
  refine J_sipush (pc := 2) (v := 150) dX10_work_2 (by decide) ?_
  refine J_cvv (pc := 5) (N := mX10_openText) dX10_work_5 ml_X10_111 cf_X10_openText cv_X10_openText (r_X10_openText (mx := 150) ht h6 hnt hn1 (by decide)) rfl rfl (Nat.le_of_ble_eq_true rfl) (by decide) (rv_of (ci := 10) rfl rfl rfl) ?_
  refine J_aload_n (pc := 8) dX10_work_8 rfl ?_
  refine J_getr (pc := 9) dX10_work_9 kc10 fl_X10_72 rfl ?_
  refine J_cnr (pc := 12) (N := mX5_isFull) dX10_work_12 ml_X10_140 cf_X5_isFull cv_X5_isFull (r_X5_isFull (Or.inl ⟨rfl, rfl⟩) hm) rfl rfl (Nat.le_of_ble_eq_true rfl) (by decide) (rv_of (ci := 5) (by first | exact shf_n (by assumption) | rfl) rfl rfl) ?_
  refine J_ifp_eq (pc := 15) (tgt := 21) dX10_work_15 (by decide) (fun c15 => absurd (show nI 16 ≤ sf (ct (opS S n) (0, 0, 0, 0)) 32 3 by rw [show sf (ct (opS S n) (0, 0, 0, 0)) 32 3 = nI 16 from hw]; exact Int32.le_refl _) c15) (fun c15 => ?_)
  refine J_bipush (pc := 18) (v := -20) dX10_work_18 (by decide) ?_
  exact J_iret (pc := 20) rfl rfl rfl dX10_work_20 (rq hQ rfl rfl)
theorem r_X10_work_bad {g : Gp} {S : Sx} {n tp : Nat} (ht : sf S 1 1 = nI tp) (h6 : tp ≤ 600) (hnt : n ≤ tp) (hn1 : n ≤ 150) (hm : sf S 32 0 = nI 16) {f w : Nat} {cc : Nat → Nat} {r : WS} (hw : sf S 32 3 = nI w) (hw16 : w < 16) (hF : FC S n cc) {a : Nat} {d : HD} (hHL : HLa a) (hHC : HC S a d) (hv : HV d) (hp2 : sp S 3 2 = a) (hr : rs cc n (dNs d) (dNr d) (dNp d) f 1 0 ((pbl cc n 0, 0, 0), []) = some r) (hb : r.1.2.1 ≠ 0) : RI g mX10_work 28 [.ref 0, .int (nI n)] S (fun x X => x = nI r.1.2.1 - 10 ∧ FRC (t1F wsG) wsA S X ∧ sf X 1 1 = 0 ∧ sf X 1 6 = nI r.1.2.2) := by
  refine RI_ofQ ⟨rfl, rfl⟩ (Nat.le_of_ble_eq_true rfl) (fun sz Q hQ => ?_)
  refine J_aload_n (pc := 0) dX10_work_0 rfl ?_
  refine J_iload_n (pc := 1) dX10_work_1 rfl ?_
  refine J_sipush (pc := 2) (v := 150) dX10_work_2 (by decide) ?_
  refine J_cvv (pc := 5) (N := mX10_openText) dX10_work_5 ml_X10_111 cf_X10_openText cv_X10_openText (r_X10_openText (mx := 150) ht h6 hnt hn1 (by decide)) rfl rfl (Nat.le_of_ble_eq_true rfl) (by decide) (rv_of (ci := 10) rfl rfl rfl) ?_
  refine J_aload_n (pc := 8) dX10_work_8 rfl ?_
  refine J_getr (pc := 9) dX10_work_9 kc10 fl_X10_72 rfl ?_
  refine J_cnr (pc := 12) (N := mX5_isFull) dX10_work_12 ml_X10_140 cf_X5_isFull cv_X5_isFull (r_X5_isFull (Or.inl ⟨rfl, rfl⟩) hm) rfl rfl (Nat.le_of_ble_eq_true rfl) (by decide) (rv_of (ci := 5) (by first | exact shf_n (by assumption) | rfl) rfl rfl) ?_
  refine J_ifp_eq (pc := 15) (tgt := 21) dX10_work_15 (by decide) (fun c15 => ?_) (fun c15 => absurd (show nI 16 ≤ nI w by rw [← hw]; exact c15) (Int32.not_le.mpr (nI_lt (b := 16) hw16 (by decide))))
  refine J_aload_n (pc := 21) dX10_work_21 rfl ?_
  refine J_getr (pc := 22) dX10_work_22 kc10 fl_X10_34 rfl ?_
  refine J_aload_n (pc := 25) dX10_work_25 rfl ?_
  refine J_getr (pc := 26) dX10_work_26 kc10 fl_X10_10 rfl ?_
  refine J_aload_n (pc := 29) dX10_work_29 rfl ?_
  refine J_getr (pc := 30) dX10_work_30 kc10 fl_X10_27 rfl ?_
  refine J_getpN (pc := 33) dX10_work_33 kc0 fl_X10_54 (by first | exact cvn_p2 (by assumption) | rfl) ?_
  refine J_tr hp2 ?_
  refine J_cnU (pc := 36) (N := mX4_read) dX10_work_36 ml_X10_143 cf_X4_read cv_X4_read (r_X4_read (FC_op hF) (UO_0 n) hn1 rfl rfl hHL (HC_c hHC (fun k k1 k2 => by show sf (sF (sF S 1 2 (nI n)) 1 1 0) a k = _; rw [sf_o (fun z => HLa_1 hHL z.1), sf_o (fun z => HLa_1 hHL z.1)]) (fun i _ _ => rfl)) hv hr) rfl rfl (Nat.le_of_ble_eq_true rfl) (by decide) (rv_of (ci := 4) rfl rfl rfl) ?_
  intro X36 hX36
  obtain ⟨Y, u, rfl, hu, hur, hfr, hsc, h185, h186, h187⟩ := hX36
  refine J_aload_n (pc := 39) dX10_work_39 rfl ?_
  refine J_getr (pc := 40) dX10_work_40 kc10 fl_X10_10 rfl ?_
  refine J_cnr (pc := 43) (N := mX8_isSound) dX10_work_43 ml_X10_118 cf_X8_isSound cv_X8_isSound (r_X8_isSound hu) rfl rfl (Nat.le_of_ble_eq_true rfl) (by decide) (rv_of (ci := 8) rfl rfl rfl) ?_
  refine J_ifp_ne (pc := 46) (tgt := 60) dX10_work_46 (by decide) (fun c46 => absurd (UR_s hur c46) hb) (fun c46 => ?_)
  refine J_aload_n (pc := 49) dX10_work_49 rfl ?_
  refine J_getr (pc := 50) dX10_work_50 kc10 fl_X10_10 rfl ?_
  refine J_getiN (pc := 53) dX10_work_53 kc8 fl_X10_121 rfl ?_
  refine J_t1 (y := nI r.1.2.1) (congrArg nI hur.1) ?_
  refine J_bipush (pc := 56) (v := 10) dX10_work_56 (by decide) ?_
  refine J_isub (pc := 58) dX10_work_58 ?_
  exact J_iret (pc := 59) rfl rfl rfl dX10_work_59 (hQ _ _ ⟨rfl, FRC_op hfr, op_1 hfr rfl, by show (if u.2.2.1 = 0 then (-1 : Int32) else nI u.2.2.2) = _; rw [if_neg (fun z => hb (UR_s hur z)), hur.2.1 hb]⟩)
theorem r_X10_work {g : Gp} {S : Sx} {n tp : Nat} (ht : sf S 1 1 = nI tp) (h6 : tp ≤ 600) (hnt : n ≤ tp) (hn1 : n ≤ 150) (hm : sf S 32 0 = nI 16) {f w : Nat} {cc : Nat → Nat} {r : WS} (hw : sf S 32 3 = nI w) (hw16 : w < 16) (hwd : sf S 32 1 = 31) (hF : FC S n cc) {a b m F : Nat} {d : HD} {wv : Nat → Nat × Nat} {fw : Row} (hX : CX S 3 16 17 a b d m wv fw) (hD : DT d fw) (hr : rs cc n (dNs d) (dNr d) (dNp d) f 1 0 ((pbl cc n 0, 0, 0), []) = some r) (hb : r.1.2.1 = 0) (hS : SG d r.2 F 0 0 r.2.length) : RI g mX10_work 28 [.ref 0, .int (nI n)] S (fun x X => x = nI (gos (doA d m wv) r.2 F 0 r.2.length (fw, 0, 0, 0)).2.2.1 ∧ FRC wkG wkA S X ∧ sf X 1 1 = 0 ∧ sf X 1 6 = -1 ∧ RC d (sa X 16) (gos (doA d m wv) r.2 F 0 r.2.length (fw, 0, 0, 0)).1 ∧ sa X 33 = va_cpy (sa S 16) (sa S 33) 0 (w * 31) 31 ∧ sf X 32 3 = nI (w + 1) ∧ sf X 0 13 = nI (gos (doA d m wv) r.2 F 0 r.2.length (fw, 0, 0, 0)).2.2.2) := by
  refine RI_ofQ ⟨rfl, rfl⟩ (Nat.le_of_ble_eq_true rfl) (fun sz Q hQ => ?_)
  obtain ⟨hCL, hHL, hLL, hp2, hp3, hHC, hv, hW, hLC, hRC⟩ := id hX
  obtain ⟨S', hT⟩ := TX_of (FC_op hF)
  have a1 := RST_rs hT f 1 0 _ r (by decide) (show PO n (pbl cc n 0, 0, 0) from ⟨pbl_le cc (Nat.zero_le n), Nat.zero_le 3, Nat.zero_le n⟩) (fun z => by cases z) hr
  have h37 : r.2.length ≤ 37 := by
    have := (RST_I a1 ⟨⟨pbl_le cc (Nat.zero_le n), Nat.zero_le 3, Nat.zero_le n⟩, fun _ => Nat.zero_le _⟩).2 hb
    have := a1.1.1
    omega
  refine J_aload_n (pc := 0) dX10_work_0 rfl ?_
  refine J_iload_n (pc := 1) dX10_work_1 rfl ?_
  refine J_sipush (pc := 2) (v := 150) dX10_work_2 (by decide) ?_
  refine J_cvv (pc := 5) (N := mX10_openText) dX10_work_5 ml_X10_111 cf_X10_openText cv_X10_openText (r_X10_openText (mx := 150) ht h6 hnt hn1 (by decide)) rfl rfl (Nat.le_of_ble_eq_true rfl) (by decide) (rv_of (ci := 10) rfl rfl rfl) ?_
  refine J_aload_n (pc := 8) dX10_work_8 rfl ?_
  refine J_getr (pc := 9) dX10_work_9 kc10 fl_X10_72 rfl ?_
  refine J_cnr (pc := 12) (N := mX5_isFull) dX10_work_12 ml_X10_140 cf_X5_isFull cv_X5_isFull (r_X5_isFull (Or.inl ⟨rfl, rfl⟩) hm) rfl rfl (Nat.le_of_ble_eq_true rfl) (by decide) (rv_of (ci := 5) (by first | exact shf_n (by assumption) | rfl) rfl rfl) ?_
  refine J_ifp_eq (pc := 15) (tgt := 21) dX10_work_15 (by decide) (fun c15 => ?_) (fun c15 => absurd (show nI 16 ≤ nI w by rw [← hw]; exact c15) (Int32.not_le.mpr (nI_lt (b := 16) hw16 (by decide))))
  refine J_aload_n (pc := 21) dX10_work_21 rfl ?_
  refine J_getr (pc := 22) dX10_work_22 kc10 fl_X10_34 rfl ?_
  refine J_aload_n (pc := 25) dX10_work_25 rfl ?_
  refine J_getr (pc := 26) dX10_work_26 kc10 fl_X10_10 rfl ?_
  refine J_aload_n (pc := 29) dX10_work_29 rfl ?_
  refine J_getr (pc := 30) dX10_work_30 kc10 fl_X10_27 rfl ?_
  refine J_getpN (pc := 33) dX10_work_33 kc0 fl_X10_54 (by first | exact cvn_p2 (by assumption) | rfl) ?_
  refine J_tr hp2 ?_
  refine J_cnU (pc := 36) (N := mX4_read) dX10_work_36 ml_X10_143 cf_X4_read cv_X4_read (r_X4_read (FC_op hF) (UO_0 n) hn1 rfl rfl hHL (HC_c hHC (fun k k1 k2 => by show sf (sF (sF S 1 2 (nI n)) 1 1 0) a k = _; rw [sf_o (fun z => HLa_1 hHL z.1), sf_o (fun z => HLa_1 hHL z.1)]) (fun i _ _ => rfl)) hv hr) rfl rfl (Nat.le_of_ble_eq_true rfl) (by decide) (rv_of (ci := 4) rfl rfl rfl) ?_
  intro X36 hX36
  obtain ⟨Y, u, rfl, hu, hur, hfr, hsc, h185, h186, h187⟩ := hX36
  have hsc := hsc hb
  have u0 := UR_0 hur hb
  have fr0 := FRC_op (u := u) hfr
  have z1 := op_1 (u := u) hfr rfl
  have z6 : sf (ct Y u) 1 6 = -1 := if_pos u0
  have e32 : ∀ k, sf (ct Y u) 32 k = sf S 32 k := fun k => fr0.1.1 32 k rfl
  have e16 : sa (ct Y u) 16 = sa S 16 := fr0.1.2.2 16 rfl
  have e33 : sa (ct Y u) 33 = sa S 33 := fr0.1.2.2 33 rfl
  have frP : FRC wkG (fun x => wsA x || x == 33) S (sF (sAA (ct Y u) 33 (va_cpy (sa (ct Y u) 16) (sa (ct Y u) 33) 0 (w * 31) 31)) 32 3 (nI (w + 1))) := by
    have f0 : FRC wkG (fun x => wsA x || x == 33) S (ct Y u) := FRC_m fr0 (fun x k z => by unfold t1F at z; unfold wkG; rcases Bool.or_eq_true _ _ ▸ z with y | y <;> simp [y]) (fun x z => by simp [z])
    refine FRC_F (X := sAA (ct Y u) 33 (va_cpy (sa (ct Y u) 16) (sa (ct Y u) 33) 0 (w * 31) 31)) (a := 32) (k := 3) ⟨⟨f0.1.1, f0.1.2.1, fun x hx => ?_⟩, f0.2⟩ rfl
    rw [sAA_o (fun e => by subst e; exact absurd hx (by decide))]
    exact f0.1.2.2 x hx
  have cxP := CX_R hX frP (wk_a hHL).1 (fun i i1 i2 => by have := (wk_a hHL).2 i i1 i2; unfold wkA at this; simp only [Bool.or_eq_false_iff] at this; simp [this.1.1, this.2]) (wk_b hLL).1 (by have := (wk_b hLL).2; unfold wkA at this; simp only [Bool.or_eq_false_iff] at this; simp [this.1.1, this.2]) (by decide)
  obtain ⟨P, hP⟩ : ∃ P, P = sF (sAA (ct Y u) 33 (va_cpy (sa (ct Y u) 16) (sa (ct Y u) 33) 0 (w * 31) 31)) 32 3 (nI (w + 1)) := ⟨_, rfl⟩
  have hPs : ∀ k, sf P 18 k = sf Y 18 k := fun k => by rw [hP, sf_o (by omega)]; exact (ct_o (S := Y) (u := u) (x := 18) (y := k) (by decide))
  have hPa : ∀ x, 19 ≤ x → x ≤ 22 → sa P x = sa Y x := fun x x1 x2 => by rw [hP]; show sa (sAA _ 33 _) x = _; rw [sAA_o (by omega)]; rfl
  have hLq : ∀ i, i < r.2.length → SCq P i (r.2.getD i (0, 0, 0, 0)) := fun i hi => by unfold SCq; rw [hPa 19 (by decide) (by decide), hPa 20 (by decide) (by decide), hPa 21 (by decide) (by decide), hPa 22 (by decide) (by decide)]; exact hsc.2 i hi
  have hgj := cg_j (g := g) (by rw [hP]; exact cxP) h37 hLq (fun i hi => SG_e hS i (Nat.zero_le _) hi) F
  have hGC : GC P d (fw, 0, 0, 0) P := by
    refine ⟨sa P 16, P, ?_, by rw [hP]; exact cxP.2.2.2.2.2.2.2.2.2⟩
    show P = w1 (sAA (sF (sF (sF P 18 5 0) 18 6 0) 18 7 0) 16 (sa P 16)) P
    rw [sF_same (S := P) (a := 18) (k := 5) (v := 0) ((hPs 5).trans h185), sF_same (S := P) (a := 18) (k := 6) (v := 0) ((hPs 6).trans h186), sF_same (S := P) (a := 18) (k := 7) (v := 0) ((hPs 7).trans h187), sAA_self]
    rfl
  have hPl : sf P 18 4 = nI r.2.length := (hPs 4).trans hsc.1
  refine J_aload_n (pc := 39) dX10_work_39 rfl ?_
  refine J_getr (pc := 40) dX10_work_40 kc10 fl_X10_10 rfl ?_
  refine J_cnr (pc := 43) (N := mX8_isSound) dX10_work_43 ml_X10_118 cf_X8_isSound cv_X8_isSound (r_X8_isSound hu) rfl rfl (Nat.le_of_ble_eq_true rfl) (by decide) (rv_of (ci := 8) rfl rfl rfl) ?_
  refine J_ifp_ne (pc := 46) (tgt := 60) dX10_work_46 (by decide) (fun c46 => ?_) (fun c46 => absurd u0 c46)
  refine J_aload_n (pc := 60) dX10_work_60 rfl ?_
  refine J_getr (pc := 61) dX10_work_61 kc10 fl_X10_72 rfl ?_
  refine J_aload_n (pc := 64) dX10_work_64 rfl ?_
  refine J_getr (pc := 65) dX10_work_65 kc10 fl_X10_27 rfl ?_
  refine J_getrN (pc := 68) dX10_work_68 kc0 fl_X10_146 (by first | exact cvn_r0 (by assumption) | rfl) ?_
  refine J_cnv (pc := 71) (N := mX5_push) dX10_work_71 ml_X10_150 cf_X5_push cv_X5_push (r_X5_push (h := w) (Or.inl ⟨rfl, rfl⟩) ((e32 0).trans hm) ((e32 1).trans hwd) ((e32 3).trans hw) hw16) rfl rfl (Nat.le_of_ble_eq_true rfl) (by decide) (rv_of (ci := 5) (by first | exact shf_n (by assumption) | rfl) rfl rfl) ?_
  rw [← hP]
  refine J_aload_n (pc := 74) dX10_work_74 rfl ?_
  refine J_getr (pc := 75) dX10_work_75 kc10 fl_X10_34 rfl ?_
  refine J_aload_n (pc := 78) dX10_work_78 rfl ?_
  refine J_getr (pc := 79) dX10_work_79 kc10 fl_X10_27 rfl ?_
  refine J_iconst (pc := 82) (v := 0) dX10_work_82 (by decide) ?_
  refine J_aload_n (pc := 83) dX10_work_83 rfl ?_
  refine J_getr (pc := 84) dX10_work_84 kc10 fl_X10_34 rfl ?_
  refine J_getiN (pc := 87) dX10_work_87 kc4 fl_X10_154 rfl ?_
  refine J_t1 hPl ?_
  refine J_iconst (pc := 90) (v := 0) dX10_work_90 (by decide) ?_
  refine J_cnU (pc := 91) (N := mX4_carryOut) dX10_work_91 ml_X10_157 cf_X4_carryOut cv_X4_carryOut (cg_ru hgj (op := 0) (fr := 0) (to := r.2.length) (A := (fw, 0, 0, 0)) (by decide) hS (Nat.le_refl _) (Nat.zero_le _) hD hGC) rfl rfl (Nat.le_of_ble_eq_true rfl) (by decide) (rv_of (ci := 4) rfl rfl rfl) ?_
  intro X91 hX91
  obtain ⟨c', T, rfl, hRC'⟩ := hX91
  refine J_aload_n (pc := 94) dX10_work_94 rfl ?_
  refine J_aload_n (pc := 95) dX10_work_95 rfl ?_
  refine J_getr (pc := 96) dX10_work_96 kc10 fl_X10_34 rfl ?_
  refine J_getiN (pc := 99) dX10_work_99 kc4 fl_X10_161 rfl ?_
  refine J_puti (pc := 102) dX10_work_102 kc10 fl_X10_133 rfl ⟨rfl, rfl⟩ ?_
  refine J_aload_n (pc := 105) dX10_work_105 rfl ?_
  refine J_getr (pc := 106) dX10_work_106 kc10 fl_X10_34 rfl ?_
  refine J_getiN (pc := 109) dX10_work_109 kc4 fl_X10_164 rfl ?_
  exact J_iret rfl rfl rfl dX10_work_112 (by
    generalize (gos (doA d m wv) r.2 F 0 r.2.length (fw, 0, 0, 0)) = G at hRC' hQ ⊢
    have hPF : FRC wkG (fun x => wsA x || x == 33) S P := by rw [hP]; exact frP
    refine hQ _ _ ⟨rfl, ?_, ?_, ?_, ?_, ?_, ?_, sF_s⟩
    · refine ⟨⟨fun x k q => ?_, hPF.1.2.1, fun x q => ?_⟩, hPF.2⟩
      · rw [sf_o (fun z => by rw [z.1, z.2] at q; exact absurd q (by decide))]
        show sf (sF (sF (sF P 18 5 (nI G.2.1)) 18 6 (nI G.2.2.1)) 18 7 (nI G.2.2.2)) x k = _
        rw [sf_o (fun z => by rw [z.1, z.2] at q; exact absurd q (by decide)), sf_o (fun z => by rw [z.1, z.2] at q; exact absurd q (by decide)), sf_o (fun z => by rw [z.1, z.2] at q; exact absurd q (by decide))]
        exact hPF.1.1 x k q
      · show (if x = 16 then c' else sa P x) = _
        rw [if_neg (fun z => by rw [z] at q; exact absurd q (by decide))]
        exact hPF.1.2.2 x (by unfold wkA at q; simp only [Bool.or_eq_false_iff] at q; simp [q.1.1, q.2])
    · rw [sf_o (by omega)]
      show sf (sF (sF (sF P 18 5 (nI G.2.1)) 18 6 (nI G.2.2.1)) 18 7 (nI G.2.2.2)) 1 1 = 0
      rw [sf_o (by omega), sf_o (by omega), sf_o (by omega), hP, sf_o (by omega)]
      exact z1
    · rw [sf_o (by omega)]
      show sf (sF (sF (sF P 18 5 (nI G.2.1)) 18 6 (nI G.2.2.1)) 18 7 (nI G.2.2.2)) 1 6 = -1
      rw [sf_o (by omega), sf_o (by omega), sf_o (by omega), hP, sf_o (by omega)]
      exact z6
    · show RC d (if (16 : Nat) = 16 then c' else sa P 16) G.1
      rw [if_pos rfl]; exact hRC'
    · show (if (33 : Nat) = 16 then c' else sa P 33) = _
      rw [if_neg (by decide), hP]
      show sa (sAA _ 33 _) 33 = _
      rw [sAA_s, e16, e33]
    · rw [sf_o (by omega)]
      show sf (sF (sF (sF P 18 5 (nI G.2.1)) 18 6 (nI G.2.2.1)) 18 7 (nI G.2.2.2)) 32 3 = _
      rw [sf_o (by omega), sf_o (by omega), sf_o (by omega), hP, sF_s])
