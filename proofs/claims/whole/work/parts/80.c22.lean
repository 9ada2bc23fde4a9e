/-! ===== house, law, seen, work ===== -/
def t1F (F : Nat → Nat → Bool) (x k : Nat) : Bool := F x k || x == 1
theorem t1F_f {F : Nat → Nat → Bool} {x k : Nat} (h : t1F F x k = false) : F x k = false ∧ x ≠ 1 := by
  unfold t1F at h
  rw [Bool.or_eq_false_iff] at h
  exact ⟨h.1, fun e => by rw [e] at h; exact absurd h.2 (by decide)⟩
theorem FRC_op {F : Nat → Nat → Bool} {A : Nat → Bool} {S Y : Sx} {n : Nat} {u : UT} (h : FRC F A (opS S n) Y) : FRC (t1F F) A S (ct Y u) := ⟨⟨fun x k q => by
  obtain ⟨q1, q2⟩ := t1F_f q
  rw [ct_o q2, h.1.1 x k q1]
  show sf (sF (sF S 1 2 (nI n)) 1 1 0) x k = _
  rw [sf_o (fun z => q2 z.1), sf_o (fun z => q2 z.1)], h.1.2.1, h.1.2.2⟩, h.2⟩
theorem op_1 {F : Nat → Nat → Bool} {A : Nat → Bool} {S Y : Sx} {n : Nat} {u : UT} (h : FRC F A (opS S n) Y) (hF : F 1 1 = false) : sf (ct Y u) 1 1 = 0 := by
  show sf Y 1 1 = 0
  rw [h.1.1 1 1 hF]
  exact sF_s
theorem FRC_P {F : Nat → Nat → Bool} {A : Nat → Bool} {S X : Sx} (h : FRC F A S X) (a k v : Nat) : FRC F A (sP S a k v) (sP X a k v) := ⟨⟨h.1.1, by show up2 (sp X) a k v = up2 (sp S) a k v; rw [h.1.2.1], h.1.2.2⟩, h.2⟩
theorem FRC_m {F F' : Nat → Nat → Bool} {A A' : Nat → Bool} {S X : Sx} (h : FRC F A S X) (hF : ∀ a k, F a k = true → F' a k = true) (hA : ∀ a, A a = true → A' a = true) : FRC F' A' S X := ⟨FRM_mono h.1 (imp_f2 hF) (imp_f hA), h.2⟩
theorem LIt_F {F : Nat → Nat → Bool} {A : Nat → Bool} {S X : Sx} {b : Nat} {l : List (Nat × Nat)} (h : LIt S b l) (hf : FRC F A S X) (h1 : F b 2 = false) (h2 : A (b + 1) = false) : LIt X b l := ⟨(hf.1.1 b 2 h1).trans h.1, fun k hk => by rw [hf.1.2.2 (b + 1) h2]; exact h.2 k hk⟩
theorem SC_F {F : Nat → Nat → Bool} {A : Nat → Bool} {S X : Sx} {q : Nat} {l : List (Nat × Nat)} (h : SC S q l) (hf : FRC F A S X) (h1 : F q 1 = false) (h2 : A (q + 1) = false) : SC X q l := ⟨(hf.1.1 q 1 h1).trans h.1, fun k hk => by rw [hf.1.2.2 (q + 1) h2]; exact h.2 k hk⟩
theorem sP_e {S : Sx} {a k v : Nat} : sp (sP S a k v) a k = v := by show up2 (sp S) a k v a k = v; simp [up2]
theorem sP_n {S : Sx} {a k v b j : Nat} (h : ¬ (b = a ∧ j = k)) : sp (sP S a k v) b j = sp S b j := by
  show (if b = a then (if j = k then v else sp S b j) else sp S b j) = _
  by_cases q : b = a
  · rw [if_pos q, if_neg (fun z => h ⟨q, z⟩)]
  · rw [if_neg q]
/-- a house's reading may change these -/
def hsF (a b q : Nat) (x k : Nat) : Bool := hcF a x k || lwF b x k || sgF q x k || x == 1 || (x == 32 && k == 3) || (x == 34 && k == 3) || (x == 0 && k == 13)
def hsA (a b q : Nat) (x : Nat) : Bool := hcA a x || bgB b x || sgA q x
theorem r_X10_house_bad {g : Gp} {S : Sx} {n tp f : Nat} {cc : Nat → Nat} {s : HS} (ht : sf S 1 1 = nI tp) (h6 : tp ≤ 600) (hnt : n ≤ tp) (hF : FC S n cc) (hr : hlp cc n f ((pbl cc n 0, 0, 0), 0, hd0) = some s) {a : Nat} (hHL : HLa a) (hp10 : sp S 0 10 = a) (hb : s.1.2.1 ≠ 0) : RI g mX10_house 8 [.ref 0, .int (nI n)] S (fun x X => x = nI s.1.2.1 - 10 ∧ FRC (t1F (hcF a)) (hcA a) S X ∧ sf X 1 1 = 0 ∧ sf X 1 6 = nI s.1.2.2) := by
  refine RI_ofQ ⟨rfl, rfl⟩ (Nat.le_of_ble_eq_true rfl) (fun sz Q hQ => ?_)
  refine J_aload_n (pc := 0) dX10_house_0 rfl ?_
  refine J_iload_n (pc := 1) dX10_house_1 rfl ?_
  refine J_sipush (pc := 2) (v := 600) dX10_house_2 (by decide) ?_
  refine J_cvv (pc := 5) (N := mX10_openText) dX10_house_5 ml_X10_111 cf_X10_openText cv_X10_openText (r_X10_openText (mx := 600) ht h6 hnt (by omega) (by decide)) rfl rfl (Nat.le_of_ble_eq_true rfl) (by decide) (rv_of (ci := 10) rfl rfl rfl) ?_
  refine J_aload_n (pc := 8) dX10_house_8 rfl ?_
  refine J_getp (pc := 9) dX10_house_9 kc10 fl_X10_90 rfl ?_
  refine J_tr hp10 ?_
  refine J_aload_n (pc := 12) dX10_house_12 rfl ?_
  refine J_getr (pc := 13) dX10_house_13 kc10 fl_X10_10 rfl ?_
  refine J_cnU (pc := 16) (N := mX1_read) dX10_house_16 ml_X10_114 cf_X1_read cv_X1_read (r_X1_read (FC_op hF) (UO_0 n) rfl rfl hHL hr) rfl rfl (Nat.le_of_ble_eq_true rfl) (by decide) (rv_of (ci := 1) (by first | exact hou_n (by assumption) | rfl) rfl rfl) ?_
  intro X16 hX16
  obtain ⟨Y, u, rfl, hu, hur, hfr, hhc⟩ := hX16
  refine J_aload_n (pc := 19) dX10_house_19 rfl ?_
  refine J_getr (pc := 20) dX10_house_20 kc10 fl_X10_10 rfl ?_
  refine J_cnr (pc := 23) (N := mX8_isSound) dX10_house_23 ml_X10_118 cf_X8_isSound cv_X8_isSound (r_X8_isSound hu) rfl rfl (Nat.le_of_ble_eq_true rfl) (by decide) (rv_of (ci := 8) rfl rfl rfl) ?_
  refine J_ifp_ne (pc := 26) (tgt := 40) dX10_house_26 (by decide) (fun c26 => absurd (UR_s hur c26) hb) (fun c26 => ?_)
  refine J_aload_n (pc := 29) dX10_house_29 rfl ?_
  refine J_getr (pc := 30) dX10_house_30 kc10 fl_X10_10 rfl ?_
  refine J_getiN (pc := 33) dX10_house_33 kc8 fl_X10_121 rfl ?_
  refine J_t1 (y := nI s.1.2.1) (congrArg nI hur.1) ?_
  refine J_bipush (pc := 36) (v := 10) dX10_house_36 (by decide) ?_
  refine J_isub (pc := 38) dX10_house_38 ?_
  exact J_iret (pc := 39) rfl rfl rfl dX10_house_39 (hQ _ _ ⟨rfl, FRC_op hfr, op_1 hfr (by rcases hHL with rfl | rfl <;> decide), by show (if u.2.2.1 = 0 then (-1 : Int32) else nI u.2.2.2) = _; rw [if_neg (fun z => hb (UR_s hur z)), hur.2.1 hb]⟩)
theorem r_X10_house {g : Gp} {S : Sx} {n tp f : Nat} {cc : Nat → Nat} {s : HS} (ht : sf S 1 1 = nI tp) (h6 : tp ≤ 600) (hnt : n ≤ tp) (hF : FC S n cc) (hr : hlp cc n f ((pbl cc n 0, 0, 0), 0, hd0) = some s) {a : Nat} (hHL : HLa a) (hp10 : sp S 0 10 = a) (hb : s.1.2.1 = 0) {a' b q : Nat} (hHL' : HLa a') (hne : a ≠ a') (hLL : LLa b) (hq : SLa q) (hp2 : sp S 3 2 = a') (hp3 : sp S 3 3 = b) (hp9 : sp S 0 9 = q) (hv : HV s.2.2) : RI g mX10_house 8 [.ref 0, .int (nI n)] S (fun x X => x = nI (dNr s.2.2) ∧ FRC (hsF a b q) (hsA a b q) (sP (sP S 3 2 a) 0 10 a') X ∧ sf X 1 1 = 0 ∧ sf X 1 6 = -1 ∧ HC X a s.2.2 ∧ LIt X b plL ∧ (∀ k, k < 31 → sa X 16 k = cb0 (dNs s.2.2) k) ∧ SC X q [] ∧ sf X 32 3 = 0 ∧ sf X 34 3 = 0 ∧ sf X 0 13 = 0) := by
  refine RI_ofQ ⟨rfl, rfl⟩ (Nat.le_of_ble_eq_true rfl) (fun sz Q hQ => ?_)
  refine J_aload_n (pc := 0) dX10_house_0 rfl ?_
  refine J_iload_n (pc := 1) dX10_house_1 rfl ?_
  refine J_sipush (pc := 2) (v := 600) dX10_house_2 (by decide) ?_
  refine J_cvv (pc := 5) (N := mX10_openText) dX10_house_5 ml_X10_111 cf_X10_openText cv_X10_openText (r_X10_openText (mx := 600) ht h6 hnt (by omega) (by decide)) rfl rfl (Nat.le_of_ble_eq_true rfl) (by decide) (rv_of (ci := 10) rfl rfl rfl) ?_
  refine J_aload_n (pc := 8) dX10_house_8 rfl ?_
  refine J_getp (pc := 9) dX10_house_9 kc10 fl_X10_90 rfl ?_
  refine J_tr hp10 ?_
  refine J_aload_n (pc := 12) dX10_house_12 rfl ?_
  refine J_getr (pc := 13) dX10_house_13 kc10 fl_X10_10 rfl ?_
  refine J_cnU (pc := 16) (N := mX1_read) dX10_house_16 ml_X10_114 cf_X1_read cv_X1_read (r_X1_read (FC_op hF) (UO_0 n) rfl rfl hHL hr) rfl rfl (Nat.le_of_ble_eq_true rfl) (by decide) (rv_of (ci := 1) (by first | exact hou_n (by assumption) | rfl) rfl rfl) ?_
  intro X16 hX16
  obtain ⟨Y, u, rfl, hu, hur, hfr, hhc⟩ := hX16
  have u0 := UR_0 hur hb
  have h1 := HLa_1 hHL
  have fr0 := FRC_op (u := u) hfr
  have q3 : sp (ct Y u) 3 3 = b := by rw [fr0.1.2.1]; exact hp3
  have q2 : sp (ct Y u) 3 2 = a' := by rw [fr0.1.2.1]; exact hp2
  have q10 : sp (ct Y u) 0 10 = a := by rw [fr0.1.2.1]; exact hp10
  have q9 : sp (ct Y u) 0 9 = q := by rw [fr0.1.2.1]; exact hp9
  have hH1 : HC (sP (sP (ct Y u) 3 2 a) 0 10 a') a s.2.2 := (HC_ct h1).mpr (hhc hb)
  have z1 := op_1 (u := u) hfr (by rcases hHL with rfl | rfl <;> decide)
  have z6 : sf (ct Y u) 1 6 = -1 := if_pos u0
  refine J_aload_n (pc := 19) dX10_house_19 rfl ?_
  refine J_getr (pc := 20) dX10_house_20 kc10 fl_X10_10 rfl ?_
  refine J_cnr (pc := 23) (N := mX8_isSound) dX10_house_23 ml_X10_118 cf_X8_isSound cv_X8_isSound (r_X8_isSound hu) rfl rfl (Nat.le_of_ble_eq_true rfl) (by decide) (rv_of (ci := 8) rfl rfl rfl) ?_
  refine J_ifp_ne (pc := 26) (tgt := 40) dX10_house_26 (by decide) (fun c26 => ?_) (fun c26 => absurd u0 c26)
  refine J_aload_n (pc := 40) dX10_house_40 rfl ?_
  refine J_getr (pc := 41) dX10_house_41 kc10 fl_X10_27 rfl ?_
  refine J_getpN (pc := 44) dX10_house_44 kc0 fl_X10_54 (by first | exact cvn_p2 (by assumption) | rfl) ?_
  refine J_tr q2 ?_
  refine J_astore_n (pc := 47) dX10_house_47 (by decide) rfl ?_
  refine J_aload_n (pc := 48) dX10_house_48 rfl ?_
  refine J_getr (pc := 49) dX10_house_49 kc10 fl_X10_27 rfl ?_
  refine J_aload_n (pc := 52) dX10_house_52 rfl ?_
  refine J_getp (pc := 53) dX10_house_53 kc10 fl_X10_90 rfl ?_
  refine J_tr q10 ?_
  refine J_putpN (pc := 56) dX10_house_56 kc0 fl_X10_54 (by first | exact cvn_p2 (by assumption) | rfl) ⟨rfl, rfl⟩ ?_
  refine J_aload_n (pc := 59) dX10_house_59 rfl ?_
  refine J_aload_n (pc := 60) dX10_house_60 rfl ?_
  refine J_putp (pc := 61) dX10_house_61 kc10 fl_X10_90 rfl ⟨rfl, rfl⟩ ?_
  refine J_aload_n (pc := 64) dX10_house_64 rfl ?_
  refine J_getr (pc := 65) dX10_house_65 kc10 fl_X10_27 rfl ?_
  refine J_cnU (pc := 68) (N := mX0_begin) dX10_house_68 ml_X10_124 cf_X0_begin cv_X0_begin (r_X0_begin (d := s.2.2) hHL hLL ((sP_n (by omega)).trans sP_e) ((sP_n (by omega)).trans ((sP_n (by omega)).trans q3)) hH1.1 hv.1) rfl rfl (Nat.le_of_ble_eq_true rfl) (by decide) (rv_of (ci := 0) (by first | exact cvn_n (by assumption) | rfl) rfl rfl) ?_
  intro X68 hX68
  obtain ⟨fb, lb, cb⟩ := hX68
  have fA := FRC_t (FRC_m (FRC_P (FRC_P fr0 3 2 a) 0 10 a') (F' := hsF a b q) (A' := hsA a b q) (fun x k z => by unfold t1F at z; unfold hsF; rcases Bool.or_eq_true _ _ ▸ z with y | y <;> simp [y]) (fun x z => by unfold hsA; simp [z])) (FRC_m fb (fun x k z => by unfold hsF; simp [z]) (fun x z => by unfold hsA; simp [z]))
  have hH2 : HC X68 a s.2.2 := HC_F hH1 fb (fun k k1 k2 => decide_eq_false (fun z => by omega)) (fun i i1 i2 => by unfold bgB lwA; rcases hHL with rfl | rfl <;> rcases hLL with rfl | rfl <;> simp <;> omega)
  have q9b : sp X68 0 9 = q := by rw [fb.1.2.1]; exact (sP_n (by omega)).trans ((sP_n (by omega)).trans q9)
  refine J_aload_n (pc := 71) dX10_house_71 rfl ?_
  refine J_getp (pc := 72) dX10_house_72 kc10 fl_X10_86 rfl ?_
  refine J_tr q9b ?_
  refine J_cnU (pc := 75) (N := mX6_clear) dX10_house_75 ml_X10_127 cf_X6_clear cv_X6_clear (r_X6_clear hq) rfl rfl (Nat.le_of_ble_eq_true rfl) (by decide) (rv_of (ci := 6) (by first | exact sgt_n (by assumption) | rfl) rfl rfl) ?_
  intro X75 hX75
  obtain ⟨fc, sc⟩ := hX75
  have fB := FRC_t fA (FRC_m fc (fun x k z => by unfold hsF; simp [z]) (fun x z => by unfold hsA; simp [z]))
  have hH3 := HC_F hH2 fc (sg_H1 hq hHL) (sg_H2 hq hHL)
  have lb3 := LIt_F lb fc (decide_eq_false (fun z => by omega)) (decide_eq_false (fun z => by rcases hLL with rfl | rfl <;> rcases hq with rfl | rfl <;> omega))
  have e16 : sa X75 16 = sa X68 16 := fc.1.2.2 16 (decide_eq_false (fun z => by rcases hq with rfl | rfl <;> omega))
  have p32 : sp X75 3 2 = a := by rw [fc.1.2.1, fb.1.2.1]; exact (sP_n (by omega)).trans sP_e
  have y1 : sf X75 1 1 = 0 := ((fc.1.1 1 1 (decide_eq_false (fun z => by rcases hq with rfl | rfl <;> omega))).trans (fb.1.1 1 1 (decide_eq_false (fun z => by omega)))).trans z1
  have y6 : sf X75 1 6 = -1 := ((fc.1.1 1 6 (decide_eq_false (fun z => by rcases hq with rfl | rfl <;> omega))).trans (fb.1.1 1 6 (decide_eq_false (fun z => by omega)))).trans z6
  have hne0 : a ≠ 0 ∧ a ≠ 32 ∧ a ≠ 34 := by rcases hHL with rfl | rfl <;> decide
  have hnb : b ≠ 0 ∧ b ≠ 32 ∧ b ≠ 34 := by rcases hLL with rfl | rfl <;> decide
  have hnq : q ≠ 0 ∧ q ≠ 32 ∧ q ≠ 34 := by rcases hq with rfl | rfl <;> decide
  have fin : ∀ Z, Z = sF (sF (sF X75 32 3 0) 34 3 0) 0 13 0 → FRC (fun x k => (x == 32 && k == 3) || (x == 34 && k == 3) || (x == 0 && k == 13)) (fun _ => false) X75 Z := fun Z e => by
    subst e
    exact FRC_F (FRC_F (FRC_F (FRC_r _ _ _) rfl) rfl) rfl
  refine J_aload_n (pc := 78) dX10_house_78 rfl ?_
  refine J_getr (pc := 79) dX10_house_79 kc10 fl_X10_72 rfl ?_
  refine J_iconst (pc := 82) (v := 0) dX10_house_82 (by decide) ?_
  refine J_putiN (pc := 83) dX10_house_83 kc5 fl_X10_130 (by first | exact shf_i3 (by assumption) | rfl) ⟨rfl, rfl⟩ ?_
  refine J_aload_n (pc := 86) dX10_house_86 rfl ?_
  refine J_getr (pc := 87) dX10_house_87 kc10 fl_X10_76 rfl ?_
  refine J_iconst (pc := 90) (v := 0) dX10_house_90 (by decide) ?_
  refine J_putiN (pc := 91) dX10_house_91 kc5 fl_X10_130 (by first | exact shf_i3 (by assumption) | rfl) ⟨rfl, rfl⟩ ?_
  refine J_aload_n (pc := 94) dX10_house_94 rfl ?_
  refine J_iconst (pc := 95) (v := 0) dX10_house_95 (by decide) ?_
  refine J_puti (pc := 96) dX10_house_96 kc10 fl_X10_133 rfl ⟨rfl, rfl⟩ ?_
  refine J_aload_n (pc := 99) dX10_house_99 rfl ?_
  refine J_getr (pc := 100) dX10_house_100 kc10 fl_X10_27 rfl ?_
  refine J_getpN (pc := 103) dX10_house_103 kc0 fl_X10_54 (by first | exact cvn_p2 (by assumption) | rfl) ?_
  refine J_tr p32 ?_
  refine J_getiN (pc := 106) dX10_house_106 kc1 fl_X10_136 (by first | exact hou_i9 (by assumption) | rfl) ?_
  refine J_t1 (y := nI (dNr s.2.2)) (((fin _ rfl).1.1 a 9 (by simp [hne0])).trans hH3.2.1) ?_
  exact J_iret rfl rfl rfl dX10_house_109 (by
    have fz := fin _ rfl
    refine hQ _ _ ⟨rfl, FRC_t fB (FRC_m fz (fun x k z => by unfold hsF; simp only [Bool.or_eq_true] at z ⊢; rcases z with (y | y) | y <;> simp [y]) (fun x z => by cases z)), (fz.1.1 1 1 rfl).trans y1, (fz.1.1 1 6 rfl).trans y6, HC_F hH3 fz (fun k _ _ => by simp [hne0]) (fun i _ _ => rfl), LIt_F lb3 fz (by simp [hnb]) rfl, fun k hk => ?_, SC_F sc fz (by simp [hnq]) rfl, ?_, ?_, sF_s⟩
    · show sa X75 16 k = _
      rw [e16]; exact cb k hk
    · rw [sf_o (by omega), sf_o (by omega), sF_s]
    · rw [sf_o (by omega), sF_s])
theorem r_X10_law_bad {g : Gp} {S : Sx} {n tp f : Nat} {cc : Nat → Nat} {r : LgS} (ht : sf S 1 1 = nI tp) (h6 : tp ≤ 600) (hnt : n ≤ tp) (hn1 : n ≤ 150) (hF : FC S n cc) (hr : lp cc n f 0 0 ((pbl cc n 0, 0, 0), []) = some r) {b : Nat} (hLL : LLa b) (hp11 : sp S 0 11 = b) (hb : (lwR cc n r).2.1 ≠ 0) : RI g mX10_law 34 [.ref 0, .int (nI n)] S (fun x X => x = nI (lwR cc n r).2.1 - 10 ∧ FRC (t1F (lwF b)) (lwA b) S X ∧ sf X 1 1 = 0 ∧ sf X 1 6 = nI (lwR cc n r).2.2) := by
  refine RI_ofQ ⟨rfl, rfl⟩ (Nat.le_of_ble_eq_true rfl) (fun sz Q hQ => ?_)
  refine J_aload_n (pc := 0) dX10_law_0 rfl ?_
  refine J_iload_n (pc := 1) dX10_law_1 rfl ?_
  refine J_sipush (pc := 2) (v := 150) dX10_law_2 (by decide) ?_
  refine J_cvv (pc := 5) (N := mX10_openText) dX10_law_5 ml_X10_111 cf_X10_openText cv_X10_openText (r_X10_openText (mx := 150) ht h6 hnt hn1 (by decide)) rfl rfl (Nat.le_of_ble_eq_true rfl) (by decide) (rv_of (ci := 10) rfl rfl rfl) ?_
  refine J_aload_n (pc := 8) dX10_law_8 rfl ?_
  refine J_getp (pc := 9) dX10_law_9 kc10 fl_X10_93 rfl ?_
  refine J_tr hp11 ?_
  refine J_aload_n (pc := 12) dX10_law_12 rfl ?_
  refine J_getr (pc := 13) dX10_law_13 kc10 fl_X10_10 rfl ?_
  refine J_cnU (pc := 16) (N := mX2_read) dX10_law_16 ml_X10_139 cf_X2_read cv_X2_read (r_X2_read (FC_op hF) (UO_0 n) rfl rfl hn1 hLL ((lp_bl (hF.2.2 n (Nat.le_refl _)) (Nat.zero_le n) rfl f).2.2.symm.trans hr)) rfl rfl (Nat.le_of_ble_eq_true rfl) (by decide) (rv_of (ci := 2) (by first | exact law_n (by assumption) | rfl) rfl rfl) ?_
  intro X16 hX16
  obtain ⟨Y, u, rfl, hu, hk, hpl, hfr, hit⟩ := hX16
  refine J_aload_n (pc := 19) dX10_law_19 rfl ?_
  refine J_getr (pc := 20) dX10_law_20 kc10 fl_X10_10 rfl ?_
  refine J_cnr (pc := 23) (N := mX8_isSound) dX10_law_23 ml_X10_118 cf_X8_isSound cv_X8_isSound (r_X8_isSound hu) rfl rfl (Nat.le_of_ble_eq_true rfl) (by decide) (rv_of (ci := 8) rfl rfl rfl) ?_
  refine J_ifp_ne (pc := 26) (tgt := 40) dX10_law_26 (by decide) (fun c26 => absurd (hk.symm.trans c26) hb) (fun c26 => ?_)
  refine J_aload_n (pc := 29) dX10_law_29 rfl ?_
  refine J_getr (pc := 30) dX10_law_30 kc10 fl_X10_10 rfl ?_
  refine J_getiN (pc := 33) dX10_law_33 kc8 fl_X10_121 rfl ?_
  refine J_t1 (y := nI (lwR cc n r).2.1) (congrArg nI hk) ?_
  refine J_bipush (pc := 36) (v := 10) dX10_law_36 (by decide) ?_
  refine J_isub (pc := 38) dX10_law_38 ?_
  exact J_iret (pc := 39) rfl rfl rfl dX10_law_39 (hQ _ _ ⟨rfl, FRC_op hfr, op_1 hfr (by rcases hLL with rfl | rfl <;> decide), by show (if u.2.2.1 = 0 then (-1 : Int32) else nI u.2.2.2) = _; rw [if_neg (fun z => hb (hk.symm.trans z)), hpl hb]⟩)
theorem r_X10_law {g : Gp} {S : Sx} {n tp f : Nat} {cc : Nat → Nat} {r : LgS} (ht : sf S 1 1 = nI tp) (h6 : tp ≤ 600) (hnt : n ≤ tp) (hn1 : n ≤ 150) (hF : FC S n cc) (hr : lp cc n f 0 0 ((pbl cc n 0, 0, 0), []) = some r) {b : Nat} (hLL : LLa b) (hp11 : sp S 0 11 = b) (hb : (lwR cc n r).2.1 = 0) {b' : Nat} (hLL' : LLa b') (hp3 : sp S 3 3 = b') : RI g mX10_law 34 [.ref 0, .int (nI n)] S (fun x X => x = 1 ∧ FRC (t1F (lwF b)) (lwA b) (sP (sP S 3 3 b) 0 11 b') X ∧ sf X 1 1 = 0 ∧ sf X 1 6 = -1 ∧ LIt X b r.2) := by
  refine RI_ofQ ⟨rfl, rfl⟩ (Nat.le_of_ble_eq_true rfl) (fun sz Q hQ => ?_)
  refine J_aload_n (pc := 0) dX10_law_0 rfl ?_
  refine J_iload_n (pc := 1) dX10_law_1 rfl ?_
  refine J_sipush (pc := 2) (v := 150) dX10_law_2 (by decide) ?_
  refine J_cvv (pc := 5) (N := mX10_openText) dX10_law_5 ml_X10_111 cf_X10_openText cv_X10_openText (r_X10_openText (mx := 150) ht h6 hnt hn1 (by decide)) rfl rfl (Nat.le_of_ble_eq_true rfl) (by decide) (rv_of (ci := 10) rfl rfl rfl) ?_
  refine J_aload_n (pc := 8) dX10_law_8 rfl ?_
  refine J_getp (pc := 9) dX10_law_9 kc10 fl_X10_93 rfl ?_
  refine J_tr hp11 ?_
  refine J_aload_n (pc := 12) dX10_law_12 rfl ?_
  refine J_getr (pc := 13) dX10_law_13 kc10 fl_X10_10 rfl ?_
  refine J_cnU (pc := 16) (N := mX2_read) dX10_law_16 ml_X10_139 cf_X2_read cv_X2_read (r_X2_read (FC_op hF) (UO_0 n) rfl rfl hn1 hLL ((lp_bl (hF.2.2 n (Nat.le_refl _)) (Nat.zero_le n) rfl f).2.2.symm.trans hr)) rfl rfl (Nat.le_of_ble_eq_true rfl) (by decide) (rv_of (ci := 2) (by first | exact law_n (by assumption) | rfl) rfl rfl) ?_
  intro X16 hX16
  obtain ⟨Y, u, rfl, hu, hk, hpl, hfr, hit⟩ := hX16
  have u0 : u.2.2.1 = 0 := hk.trans hb
  have fr0 := FRC_op (u := u) hfr
  have q3 : sp (ct Y u) 3 3 = b' := by rw [fr0.1.2.1]; exact hp3
  have q11 : sp (ct Y u) 0 11 = b := by rw [fr0.1.2.1]; exact hp11
  have z1 := op_1 (u := u) hfr (by rcases hLL with rfl | rfl <;> decide)
  have z6 : sf (ct Y u) 1 6 = -1 := if_pos u0
  have hl1 : LIt (sP (sP (ct Y u) 3 3 b) 0 11 b') b r.2 := ⟨(ct_o (LLa_1 hLL)).trans (hit hb).1, (hit hb).2⟩
  refine J_aload_n (pc := 19) dX10_law_19 rfl ?_
  refine J_getr (pc := 20) dX10_law_20 kc10 fl_X10_10 rfl ?_
  refine J_cnr (pc := 23) (N := mX8_isSound) dX10_law_23 ml_X10_118 cf_X8_isSound cv_X8_isSound (r_X8_isSound hu) rfl rfl (Nat.le_of_ble_eq_true rfl) (by decide) (rv_of (ci := 8) rfl rfl rfl) ?_
  refine J_ifp_ne (pc := 26) (tgt := 40) dX10_law_26 (by decide) (fun c26 => ?_) (fun c26 => absurd u0 c26)
  refine J_aload_n (pc := 40) dX10_law_40 rfl ?_
  refine J_getr (pc := 41) dX10_law_41 kc10 fl_X10_27 rfl ?_
  refine J_getpN (pc := 44) dX10_law_44 kc0 fl_X10_58 (by first | exact cvn_p3 (by assumption) | rfl) ?_
  refine J_tr q3 ?_
  refine J_astore_n (pc := 47) dX10_law_47 (by decide) rfl ?_
  refine J_aload_n (pc := 48) dX10_law_48 rfl ?_
  refine J_getr (pc := 49) dX10_law_49 kc10 fl_X10_27 rfl ?_
  refine J_aload_n (pc := 52) dX10_law_52 rfl ?_
  refine J_getp (pc := 53) dX10_law_53 kc10 fl_X10_93 rfl ?_
  refine J_tr q11 ?_
  refine J_putpN (pc := 56) dX10_law_56 kc0 fl_X10_58 (by first | exact cvn_p3 (by assumption) | rfl) ⟨rfl, rfl⟩ ?_
  refine J_aload_n (pc := 59) dX10_law_59 rfl ?_
  refine J_aload_n (pc := 60) dX10_law_60 rfl ?_
  refine J_putp (pc := 61) dX10_law_61 kc10 fl_X10_93 rfl ⟨rfl, rfl⟩ ?_
  refine J_iconst (pc := 64) (v := 1) dX10_law_64 (by decide) ?_
  exact J_iret (pc := 65) rfl rfl rfl dX10_law_65 (hQ _ _ ⟨rfl, FRC_P (FRC_P fr0 3 3 b) 0 11 b', z1, z6, hl1⟩)
theorem r_X10_seen_bad {g : Gp} {S : Sx} {n tp f : Nat} {cc : Nat → Nat} {r : SNS} (ht : sf S 1 1 = nI tp) (h6 : tp ≤ 600) (hnt : n ≤ tp) (hn1 : n ≤ 60) (hF : FC S n cc) {a : Nat} {d : HD} (hHL : HLa a) (hHC : HC S a d) (hv : HV d) (hp2 : sp S 3 2 = a) (hr : snl cc n (dNr d) f ((pbl cc n 0, 0, 0), []) = some r) {q : Nat} (hq : SLa q) (hp12 : sp S 0 12 = q) (hb : r.1.2.1 ≠ 0) : RI g mX10_seen 5 [.ref 0, .int (nI n)] S (fun x X => x = nI r.1.2.1 - 10 ∧ FRC (t1F (sgF q)) (sgA q) S X ∧ sf X 1 1 = 0 ∧ sf X 1 6 = nI r.1.2.2) := by
  refine RI_ofQ ⟨rfl, rfl⟩ (Nat.le_of_ble_eq_true rfl) (fun sz Q hQ => ?_)
  refine J_aload_n (pc := 0) dX10_seen_0 rfl ?_
  refine J_iload_n (pc := 1) dX10_seen_1 rfl ?_
  refine J_bipush (pc := 2) (v := 60) dX10_seen_2 (by decide) ?_
  refine J_cvv (pc := 4) (N := mX10_openText) dX10_seen_4 ml_X10_111 cf_X10_openText cv_X10_openText (r_X10_openText (mx := 60) ht h6 hnt hn1 (by decide)) rfl rfl (Nat.le_of_ble_eq_true rfl) (by decide) (rv_of (ci := 10) rfl rfl rfl) ?_
  refine J_aload_n (pc := 7) dX10_seen_7 rfl ?_
  refine J_getp (pc := 8) dX10_seen_8 kc10 fl_X10_96 rfl ?_
  refine J_tr hp12 ?_
  refine J_aload_n (pc := 11) dX10_seen_11 rfl ?_
  refine J_getr (pc := 12) dX10_seen_12 kc10 fl_X10_10 rfl ?_
  refine J_aload_n (pc := 15) dX10_seen_15 rfl ?_
  refine J_getr (pc := 16) dX10_seen_16 kc10 fl_X10_27 rfl ?_
  refine J_getpN (pc := 19) dX10_seen_19 kc0 fl_X10_54 (by first | exact cvn_p2 (by assumption) | rfl) ?_
  refine J_tr hp2 ?_
  refine J_cnU (pc := 22) (N := mX6_read) dX10_seen_22 ml_X10_167 cf_X6_read cv_X6_read (r_X6_read (FC_op hF) (UO_0 n) hn1 rfl rfl hq hHL (HC_c hHC (fun k k1 k2 => by show sf (sF (sF S 1 2 (nI n)) 1 1 0) a k = _; rw [sf_o (fun z => HLa_1 hHL z.1), sf_o (fun z => HLa_1 hHL z.1)]) (fun i _ _ => rfl)) hv hr) rfl rfl (Nat.le_of_ble_eq_true rfl) (by decide) (rv_of (ci := 6) (by first | exact sgt_n (by assumption) | rfl) rfl rfl) ?_
  intro X22 hX22
  obtain ⟨Y, u, rfl, hu, hur, hfr, hsc⟩ := hX22
  refine J_aload_n (pc := 25) dX10_seen_25 rfl ?_
  refine J_getr (pc := 26) dX10_seen_26 kc10 fl_X10_10 rfl ?_
  refine J_cnr (pc := 29) (N := mX8_isSound) dX10_seen_29 ml_X10_118 cf_X8_isSound cv_X8_isSound (r_X8_isSound hu) rfl rfl (Nat.le_of_ble_eq_true rfl) (by decide) (rv_of (ci := 8) rfl rfl rfl) ?_
  refine J_ifp_ne (pc := 32) (tgt := 46) dX10_seen_32 (by decide) (fun c32 => absurd (UR_s hur c32) hb) (fun c32 => ?_)
  refine J_aload_n (pc := 35) dX10_seen_35 rfl ?_
  refine J_getr (pc := 36) dX10_seen_36 kc10 fl_X10_10 rfl ?_
  refine J_getiN (pc := 39) dX10_seen_39 kc8 fl_X10_121 rfl ?_
  refine J_t1 (y := nI r.1.2.1) (congrArg nI hur.1) ?_
  refine J_bipush (pc := 42) (v := 10) dX10_seen_42 (by decide) ?_
  refine J_isub (pc := 44) dX10_seen_44 ?_
  exact J_iret (pc := 45) rfl rfl rfl dX10_seen_45 (hQ _ _ ⟨rfl, FRC_op hfr, op_1 hfr (by rcases hq with rfl | rfl <;> decide), by show (if u.2.2.1 = 0 then (-1 : Int32) else nI u.2.2.2) = _; rw [if_neg (fun z => hb (UR_s hur z)), hur.2.1 hb]⟩)
theorem r_X10_seen {g : Gp} {S : Sx} {n tp f : Nat} {cc : Nat → Nat} {r : SNS} (ht : sf S 1 1 = nI tp) (h6 : tp ≤ 600) (hnt : n ≤ tp) (hn1 : n ≤ 60) (hF : FC S n cc) {a : Nat} {d : HD} (hHL : HLa a) (hHC : HC S a d) (hv : HV d) (hp2 : sp S 3 2 = a) (hr : snl cc n (dNr d) f ((pbl cc n 0, 0, 0), []) = some r) {q : Nat} (hq : SLa q) (hp12 : sp S 0 12 = q) (hb : r.1.2.1 = 0) {q' : Nat} (hq' : SLa q') (hp9 : sp S 0 9 = q') : RI g mX10_seen 5 [.ref 0, .int (nI n)] S (fun x X => x = nI r.2.length ∧ FRC (t1F (sgF q)) (sgA q) (sP (sP S 0 9 q) 0 12 q') X ∧ sf X 1 1 = 0 ∧ sf X 1 6 = -1 ∧ SC X q r.2) := by
  refine RI_ofQ ⟨rfl, rfl⟩ (Nat.le_of_ble_eq_true rfl) (fun sz Q hQ => ?_)
  refine J_aload_n (pc := 0) dX10_seen_0 rfl ?_
  refine J_iload_n (pc := 1) dX10_seen_1 rfl ?_
  refine J_bipush (pc := 2) (v := 60) dX10_seen_2 (by decide) ?_
  refine J_cvv (pc := 4) (N := mX10_openText) dX10_seen_4 ml_X10_111 cf_X10_openText cv_X10_openText (r_X10_openText (mx := 60) ht h6 hnt hn1 (by decide)) rfl rfl (Nat.le_of_ble_eq_true rfl) (by decide) (rv_of (ci := 10) rfl rfl rfl) ?_
  refine J_aload_n (pc := 7) dX10_seen_7 rfl ?_
  refine J_getp (pc := 8) dX10_seen_8 kc10 fl_X10_96 rfl ?_
  refine J_tr hp12 ?_
  refine J_aload_n (pc := 11) dX10_seen_11 rfl ?_
  refine J_getr (pc := 12) dX10_seen_12 kc10 fl_X10_10 rfl ?_
  refine J_aload_n (pc := 15) dX10_seen_15 rfl ?_
  refine J_getr (pc := 16) dX10_seen_16 kc10 fl_X10_27 rfl ?_
  refine J_getpN (pc := 19) dX10_seen_19 kc0 fl_X10_54 (by first | exact cvn_p2 (by assumption) | rfl) ?_
  refine J_tr hp2 ?_
  refine J_cnU (pc := 22) (N := mX6_read) dX10_seen_22 ml_X10_167 cf_X6_read cv_X6_read (r_X6_read (FC_op hF) (UO_0 n) hn1 rfl rfl hq hHL (HC_c hHC (fun k k1 k2 => by show sf (sF (sF S 1 2 (nI n)) 1 1 0) a k = _; rw [sf_o (fun z => HLa_1 hHL z.1), sf_o (fun z => HLa_1 hHL z.1)]) (fun i _ _ => rfl)) hv hr) rfl rfl (Nat.le_of_ble_eq_true rfl) (by decide) (rv_of (ci := 6) (by first | exact sgt_n (by assumption) | rfl) rfl rfl) ?_
  intro X22 hX22
  obtain ⟨Y, u, rfl, hu, hur, hfr, hsc⟩ := hX22
  have u0 := UR_0 hur hb
  have fr0 := FRC_op (u := u) hfr
  have q9 : sp (ct Y u) 0 9 = q' := by rw [fr0.1.2.1]; exact hp9
  have q12 : sp (ct Y u) 0 12 = q := by rw [fr0.1.2.1]; exact hp12
  have z1 := op_1 (u := u) hfr (by rcases hq with rfl | rfl <;> decide)
  have z6 : sf (ct Y u) 1 6 = -1 := if_pos u0
  have hs1 : SC (sP (sP (ct Y u) 0 9 q) 0 12 q') q r.2 := ⟨(ct_o (SLa_1 hq)).trans (hsc hb).1, (hsc hb).2⟩
  refine J_aload_n (pc := 25) dX10_seen_25 rfl ?_
  refine J_getr (pc := 26) dX10_seen_26 kc10 fl_X10_10 rfl ?_
  refine J_cnr (pc := 29) (N := mX8_isSound) dX10_seen_29 ml_X10_118 cf_X8_isSound cv_X8_isSound (r_X8_isSound hu) rfl rfl (Nat.le_of_ble_eq_true rfl) (by decide) (rv_of (ci := 8) rfl rfl rfl) ?_
  refine J_ifp_ne (pc := 32) (tgt := 46) dX10_seen_32 (by decide) (fun c32 => ?_) (fun c32 => absurd u0 c32)
  refine J_aload_n (pc := 46) dX10_seen_46 rfl ?_
  refine J_getp (pc := 47) dX10_seen_47 kc10 fl_X10_86 rfl ?_
  refine J_tr q9 ?_
  refine J_astore_n (pc := 50) dX10_seen_50 (by decide) rfl ?_
  refine J_aload_n (pc := 51) dX10_seen_51 rfl ?_
  refine J_aload_n (pc := 52) dX10_seen_52 rfl ?_
  refine J_getp (pc := 53) dX10_seen_53 kc10 fl_X10_96 rfl ?_
  refine J_tr q12 ?_
  refine J_putp (pc := 56) dX10_seen_56 kc10 fl_X10_86 rfl ⟨rfl, rfl⟩ ?_
  refine J_aload_n (pc := 59) dX10_seen_59 rfl ?_
  refine J_aload_n (pc := 60) dX10_seen_60 rfl ?_
  refine J_putp (pc := 61) dX10_seen_61 kc10 fl_X10_96 rfl ⟨rfl, rfl⟩ ?_
  refine J_aload_n (pc := 64) dX10_seen_64 rfl ?_
  refine J_getp (pc := 65) dX10_seen_65 kc10 fl_X10_86 rfl ?_
  refine J_tr ((sP_n (by omega)).trans sP_e) ?_
  refine J_getiN (pc := 68) dX10_seen_68 kc6 fl_X10_168 (by first | exact sgt_i1 (by assumption) | rfl) ?_
  refine J_t1 hs1.1 ?_
  exact J_iret (pc := 71) rfl rfl rfl dX10_seen_71 (hQ _ _ ⟨rfl, FRC_P (FRC_P fr0 0 9 q) 0 12 q', z1, z6, hs1⟩)
