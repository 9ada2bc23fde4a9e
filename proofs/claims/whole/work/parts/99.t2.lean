/-! ===== the class refuses ===== -/
theorem min_er {x u v w : Int32} (h : w = u) (q : 0 ≤ x ∧ x ≤ (if w < v then w else v)) : 0 ≤ x ∧ x ≤ u ∧ x ≤ v := by
  subst h
  by_cases c : w < v
  · rw [if_pos c] at q
    exact ⟨q.1, q.2, Int32.le_trans q.2 (Int32.le_of_lt c)⟩
  · rw [if_neg c] at q
    exact ⟨q.1, Int32.le_trans q.2 (Int32.not_lt.mp c), q.2⟩
theorem e_X10_openText {g : Gp} {S : Sx} (hl : (gl g).stackTraces = false) {x : Int32} {tp mx : Nat} (ht : sf S 1 1 = nI tp) (h6 : tp ≤ 600) (hm6 : mx ≤ 600) (hv9 : ¬ (0 ≤ x ∧ x ≤ nI tp ∧ x ≤ nI mx)) : TH g mX10_openText 1 [.ref 0, .int x, .int (nI mx)] S IA (sF S 0 15 (sf S 0 15 + 1)) := by
  refine TH_ofQ ⟨rfl, rfl⟩ (Nat.le_of_ble_eq_true rfl) (fun sz Q hQ => ?_)
  refine J_aload_n (pc := 0) dX10_openText_0 rfl ?_
  refine J_iload_n (pc := 1) dX10_openText_1 rfl ?_
  refine J_iconst (pc := 2) (v := 0) dX10_openText_2 (by decide) ?_
  refine J_iload_n (pc := 3) dX10_openText_3 rfl ?_
  refine J_aload_n (pc := 4) dX10_openText_4 rfl ?_
  refine J_getr (pc := 5) dX10_openText_5 kc10 fl_X10_10 rfl ?_
  refine J_getiN (pc := 8) dX10_openText_8 kc8 fl_X10_107 rfl ?_
  refine J_mmin (pc := 11) dX10_openText_11 ml_X10_323 (Nat.le_of_ble_eq_true rfl) ?_
  refine J_csr (pc := 14) (N := mX10_isWithin) dX10_openText_14 ml_X10_177 cf_X10_isWithin cs_X10_isWithin r_X10_isWithin rfl rfl (Nat.le_of_ble_eq_true rfl) (by decide) ?_
  refine J_t1 (bI_f (fun q => hv9 (min_er ht q))) ?_
  exact J_cvth (pc := 17) (N := mX10_needArgument) rfl dX10_openText_17 ml_X10_181 cf_X10_needArgument cv_X10_needArgument (th_IA hl) rfl rfl (Nat.le_of_ble_eq_true rfl) (by decide) (by decide) (by decide) (rv_of (ci := 10) rfl rfl rfl) hQ
theorem e_X10_house {g : Gp} {S : Sx} (hl : (gl g).stackTraces = false) {x : Int32} {tp : Nat} (ht : sf S 1 1 = nI tp) (h6 : tp ≤ 600) (hv9 : ¬ (0 ≤ x ∧ x ≤ nI tp ∧ x ≤ nI 600)) : TH g mX10_house 2 [.ref 0, .int x] S IA (sF S 0 15 (sf S 0 15 + 1)) := by
  refine TH_ofQ ⟨rfl, rfl⟩ (Nat.le_of_ble_eq_true rfl) (fun sz Q hQ => ?_)
  refine J_aload_n (pc := 0) dX10_house_0 rfl ?_
  refine J_iload_n (pc := 1) dX10_house_1 rfl ?_
  refine J_sipush (pc := 2) (v := 600) dX10_house_2 (by decide) ?_
  exact J_cvth (pc := 5) (N := mX10_openText) rfl dX10_house_5 ml_X10_111 cf_X10_openText cv_X10_openText (e_X10_openText (mx := 600) hl ht h6 (by decide) hv9) rfl rfl (Nat.le_of_ble_eq_true rfl) (by decide) (by decide) (by decide) (rv_of (ci := 10) rfl rfl rfl) hQ
theorem e_X10_law {g : Gp} {S : Sx} (hl : (gl g).stackTraces = false) {x : Int32} {tp : Nat} (ht : sf S 1 1 = nI tp) (h6 : tp ≤ 600) (hv9 : ¬ (0 ≤ x ∧ x ≤ nI tp ∧ x ≤ nI 150)) : TH g mX10_law 2 [.ref 0, .int x] S IA (sF S 0 15 (sf S 0 15 + 1)) := by
  refine TH_ofQ ⟨rfl, rfl⟩ (Nat.le_of_ble_eq_true rfl) (fun sz Q hQ => ?_)
  refine J_aload_n (pc := 0) dX10_law_0 rfl ?_
  refine J_iload_n (pc := 1) dX10_law_1 rfl ?_
  refine J_sipush (pc := 2) (v := 150) dX10_law_2 (by decide) ?_
  exact J_cvth (pc := 5) (N := mX10_openText) rfl dX10_law_5 ml_X10_111 cf_X10_openText cv_X10_openText (e_X10_openText (mx := 150) hl ht h6 (by decide) hv9) rfl rfl (Nat.le_of_ble_eq_true rfl) (by decide) (by decide) (by decide) (rv_of (ci := 10) rfl rfl rfl) hQ
theorem e_X10_work {g : Gp} {S : Sx} (hl : (gl g).stackTraces = false) {x : Int32} {tp : Nat} (ht : sf S 1 1 = nI tp) (h6 : tp ≤ 600) (hv9 : ¬ (0 ≤ x ∧ x ≤ nI tp ∧ x ≤ nI 150)) : TH g mX10_work 2 [.ref 0, .int x] S IA (sF S 0 15 (sf S 0 15 + 1)) := by
  refine TH_ofQ ⟨rfl, rfl⟩ (Nat.le_of_ble_eq_true rfl) (fun sz Q hQ => ?_)
  refine J_aload_n (pc := 0) dX10_work_0 rfl ?_
  refine J_iload_n (pc := 1) dX10_work_1 rfl ?_
  refine J_sipush (pc := 2) (v := 150) dX10_work_2 (by decide) ?_
  exact J_cvth (pc := 5) (N := mX10_openText) rfl dX10_work_5 ml_X10_111 cf_X10_openText cv_X10_openText (e_X10_openText (mx := 150) hl ht h6 (by decide) hv9) rfl rfl (Nat.le_of_ble_eq_true rfl) (by decide) (by decide) (by decide) (rv_of (ci := 10) rfl rfl rfl) hQ
theorem e_X10_seen {g : Gp} {S : Sx} (hl : (gl g).stackTraces = false) {x : Int32} {tp : Nat} (ht : sf S 1 1 = nI tp) (h6 : tp ≤ 600) (hv9 : ¬ (0 ≤ x ∧ x ≤ nI tp ∧ x ≤ nI 60)) : TH g mX10_seen 2 [.ref 0, .int x] S IA (sF S 0 15 (sf S 0 15 + 1)) := by
  refine TH_ofQ ⟨rfl, rfl⟩ (Nat.le_of_ble_eq_true rfl) (fun sz Q hQ => ?_)
  refine J_aload_n (pc := 0) dX10_seen_0 rfl ?_
  refine J_iload_n (pc := 1) dX10_seen_1 rfl ?_
  refine J_bipush (pc := 2) (v := 60) dX10_seen_2 (by decide) ?_
  exact J_cvth (pc := 4) (N := mX10_openText) rfl dX10_seen_4 ml_X10_111 cf_X10_openText cv_X10_openText (e_X10_openText (mx := 60) hl ht h6 (by decide) hv9) rfl rfl (Nat.le_of_ble_eq_true rfl) (by decide) (by decide) (by decide) (rv_of (ci := 10) rfl rfl rfl) hQ
theorem e_X10_told {g : Gp} {S : Sx} (hl : (gl g).stackTraces = false)  {x : Int32} (hv9 : ¬ (0 ≤ x ∧ x ≤ 10)) : TH g mX10_told 1 [.ref 0, .int x] S IA (sF S 0 15 (sf S 0 15 + 1)) := by
  refine TH_ofQ ⟨rfl, rfl⟩ (Nat.le_of_ble_eq_true rfl) (fun sz Q hQ => ?_)
  refine J_aload_n (pc := 0) dX10_told_0 rfl ?_
  refine J_iload_n (pc := 1) dX10_told_1 rfl ?_
  refine J_iconst (pc := 2) (v := 0) dX10_told_2 (by decide) ?_
  refine J_bipush (pc := 3) (v := 10) dX10_told_3 (by decide) ?_
  refine J_csr (pc := 5) (N := mX10_isWithin) dX10_told_5 ml_X10_177 cf_X10_isWithin cs_X10_isWithin r_X10_isWithin rfl rfl (Nat.le_of_ble_eq_true rfl) (by decide) ?_
  refine J_t1 (bI_f hv9) ?_
  exact J_cvth (pc := 8) (N := mX10_needArgument) rfl dX10_told_8 ml_X10_181 cf_X10_needArgument cv_X10_needArgument (th_IA hl) rfl rfl (Nat.le_of_ble_eq_true rfl) (by decide) (by decide) (by decide) (rv_of (ci := 10) rfl rfl rfl) hQ
theorem e_X10_lapsed {g : Gp} {S : Sx} (hl : (gl g).stackTraces = false)  {x : Int32} (hv9 : ¬ (0 ≤ x ∧ x ≤ 2)) : TH g mX10_lapsed 1 [.ref 0, .int x] S IA (sF S 0 15 (sf S 0 15 + 1)) := by
  refine TH_ofQ ⟨rfl, rfl⟩ (Nat.le_of_ble_eq_true rfl) (fun sz Q hQ => ?_)
  refine J_aload_n (pc := 0) dX10_lapsed_0 rfl ?_
  refine J_iload_n (pc := 1) dX10_lapsed_1 rfl ?_
  refine J_iconst (pc := 2) (v := 0) dX10_lapsed_2 (by decide) ?_
  refine J_iconst (pc := 3) (v := 2) dX10_lapsed_3 (by decide) ?_
  refine J_csr (pc := 4) (N := mX10_isWithin) dX10_lapsed_4 ml_X10_177 cf_X10_isWithin cs_X10_isWithin r_X10_isWithin rfl rfl (Nat.le_of_ble_eq_true rfl) (by decide) ?_
  refine J_t1 (bI_f hv9) ?_
  exact J_cvth (pc := 7) (N := mX10_needArgument) rfl dX10_lapsed_7 ml_X10_181 cf_X10_needArgument cv_X10_needArgument (th_IA hl) rfl rfl (Nat.le_of_ble_eq_true rfl) (by decide) (by decide) (by decide) (rv_of (ci := 10) rfl rfl rfl) hQ
theorem e_X10_ask {g : Gp} {S : Sx} (hl : (gl g).stackTraces = false)  {x : Int32} (hv9 : ¬ (0 ≤ x ∧ x ≤ 1)) : TH g mX10_ask 1 [.ref 0, .int x] S IA (sF S 0 15 (sf S 0 15 + 1)) := by
  refine TH_ofQ ⟨rfl, rfl⟩ (Nat.le_of_ble_eq_true rfl) (fun sz Q hQ => ?_)
  refine J_aload_n (pc := 0) dX10_ask_0 rfl ?_
  refine J_iload_n (pc := 1) dX10_ask_1 rfl ?_
  refine J_iconst (pc := 2) (v := 0) dX10_ask_2 (by decide) ?_
  refine J_iconst (pc := 3) (v := 1) dX10_ask_3 (by decide) ?_
  refine J_csr (pc := 4) (N := mX10_isWithin) dX10_ask_4 ml_X10_177 cf_X10_isWithin cs_X10_isWithin r_X10_isWithin rfl rfl (Nat.le_of_ble_eq_true rfl) (by decide) ?_
  refine J_t1 (bI_f hv9) ?_
  exact J_cvth (pc := 7) (N := mX10_needArgument) rfl dX10_ask_7 ml_X10_181 cf_X10_needArgument cv_X10_needArgument (th_IA hl) rfl rfl (Nat.le_of_ble_eq_true rfl) (by decide) (by decide) (by decide) (rv_of (ci := 10) rfl rfl rfl) hQ
theorem e_X10_strongest {g : Gp} {S : Sx} (hl : (gl g).stackTraces = false)  {x : Int32} (hv9 : ¬ (0 ≤ x ∧ x ≤ 1)) : TH g mX10_strongest 1 [.ref 0, .int x] S IA (sF S 0 15 (sf S 0 15 + 1)) := by
  refine TH_ofQ ⟨rfl, rfl⟩ (Nat.le_of_ble_eq_true rfl) (fun sz Q hQ => ?_)
  refine J_aload_n (pc := 0) dX10_strongest_0 rfl ?_
  refine J_iload_n (pc := 1) dX10_strongest_1 rfl ?_
  refine J_iconst (pc := 2) (v := 0) dX10_strongest_2 (by decide) ?_
  refine J_iconst (pc := 3) (v := 1) dX10_strongest_3 (by decide) ?_
  refine J_csr (pc := 4) (N := mX10_isWithin) dX10_strongest_4 ml_X10_177 cf_X10_isWithin cs_X10_isWithin r_X10_isWithin rfl rfl (Nat.le_of_ble_eq_true rfl) (by decide) ?_
  refine J_t1 (bI_f hv9) ?_
  exact J_cvth (pc := 7) (N := mX10_needArgument) rfl dX10_strongest_7 ml_X10_181 cf_X10_needArgument cv_X10_needArgument (th_IA hl) rfl rfl (Nat.le_of_ble_eq_true rfl) (by decide) (by decide) (by decide) (rv_of (ci := 10) rfl rfl rfl) hQ
theorem e_X10_hopeless {g : Gp} {S : Sx} (hl : (gl g).stackTraces = false)  {x : Int32} (hv9 : ¬ (0 ≤ x ∧ x ≤ 99)) : TH g mX10_hopeless 1 [.ref 0, .int x] S IA (sF S 0 15 (sf S 0 15 + 1)) := by
  refine TH_ofQ ⟨rfl, rfl⟩ (Nat.le_of_ble_eq_true rfl) (fun sz Q hQ => ?_)
  refine J_aload_n (pc := 0) dX10_hopeless_0 rfl ?_
  refine J_iload_n (pc := 1) dX10_hopeless_1 rfl ?_
  refine J_iconst (pc := 2) (v := 0) dX10_hopeless_2 (by decide) ?_
  refine J_bipush (pc := 3) (v := 99) dX10_hopeless_3 (by decide) ?_
  refine J_csr (pc := 5) (N := mX10_isWithin) dX10_hopeless_5 ml_X10_177 cf_X10_isWithin cs_X10_isWithin r_X10_isWithin rfl rfl (Nat.le_of_ble_eq_true rfl) (by decide) ?_
  refine J_t1 (bI_f hv9) ?_
  exact J_cvth (pc := 8) (N := mX10_needArgument) rfl dX10_hopeless_8 ml_X10_181 cf_X10_needArgument cv_X10_needArgument (th_IA hl) rfl rfl (Nat.le_of_ble_eq_true rfl) (by decide) (by decide) (by decide) (rv_of (ci := 10) rfl rfl rfl) hQ
theorem e_X10_eldest {g : Gp} {S : Sx} (hl : (gl g).stackTraces = false)  {x : Int32} (hv9 : ¬ (0 ≤ x ∧ x ≤ 1)) : TH g mX10_eldest 1 [.ref 0, .int x] S IA (sF S 0 15 (sf S 0 15 + 1)) := by
  refine TH_ofQ ⟨rfl, rfl⟩ (Nat.le_of_ble_eq_true rfl) (fun sz Q hQ => ?_)
  refine J_aload_n (pc := 0) dX10_eldest_0 rfl ?_
  refine J_iload_n (pc := 1) dX10_eldest_1 rfl ?_
  refine J_iconst (pc := 2) (v := 0) dX10_eldest_2 (by decide) ?_
  refine J_iconst (pc := 3) (v := 1) dX10_eldest_3 (by decide) ?_
  refine J_csr (pc := 4) (N := mX10_isWithin) dX10_eldest_4 ml_X10_177 cf_X10_isWithin cs_X10_isWithin r_X10_isWithin rfl rfl (Nat.le_of_ble_eq_true rfl) (by decide) ?_
  refine J_t1 (bI_f hv9) ?_
  exact J_cvth (pc := 7) (N := mX10_needArgument) rfl dX10_eldest_7 ml_X10_181 cf_X10_needArgument cv_X10_needArgument (th_IA hl) rfl rfl (Nat.le_of_ble_eq_true rfl) (by decide) (by decide) (by decide) (rv_of (ci := 10) rfl rfl rfl) hQ
theorem e_X10_needs {g : Gp} {S : Sx} (hl : (gl g).stackTraces = false)  {x : Int32} (hv9 : ¬ (0 ≤ x ∧ x ≤ 5)) : TH g mX10_needs 1 [.ref 0, .int x] S IA (sF S 0 15 (sf S 0 15 + 1)) := by
  refine TH_ofQ ⟨rfl, rfl⟩ (Nat.le_of_ble_eq_true rfl) (fun sz Q hQ => ?_)
  refine J_aload_n (pc := 0) dX10_needs_0 rfl ?_
  refine J_iload_n (pc := 1) dX10_needs_1 rfl ?_
  refine J_iconst (pc := 2) (v := 0) dX10_needs_2 (by decide) ?_
  refine J_iconst (pc := 3) (v := 5) dX10_needs_3 (by decide) ?_
  refine J_csr (pc := 4) (N := mX10_isWithin) dX10_needs_4 ml_X10_177 cf_X10_isWithin cs_X10_isWithin r_X10_isWithin rfl rfl (Nat.le_of_ble_eq_true rfl) (by decide) ?_
  refine J_t1 (bI_f hv9) ?_
  exact J_cvth (pc := 7) (N := mX10_needArgument) rfl dX10_needs_7 ml_X10_181 cf_X10_needArgument cv_X10_needArgument (th_IA hl) rfl rfl (Nat.le_of_ble_eq_true rfl) (by decide) (by decide) (by decide) (rv_of (ci := 10) rfl rfl rfl) hQ
theorem e_X10_weakest {g : Gp} {S : Sx} (hl : (gl g).stackTraces = false)  {x : Int32} (hv9 : ¬ (0 ≤ x ∧ x ≤ 1)) : TH g mX10_weakest 1 [.ref 0, .int x] S IA (sF S 0 15 (sf S 0 15 + 1)) := by
  refine TH_ofQ ⟨rfl, rfl⟩ (Nat.le_of_ble_eq_true rfl) (fun sz Q hQ => ?_)
  refine J_aload_n (pc := 0) dX10_weakest_0 rfl ?_
  refine J_iload_n (pc := 1) dX10_weakest_1 rfl ?_
  refine J_iconst (pc := 2) (v := 0) dX10_weakest_2 (by decide) ?_
  refine J_iconst (pc := 3) (v := 1) dX10_weakest_3 (by decide) ?_
  refine J_csr (pc := 4) (N := mX10_isWithin) dX10_weakest_4 ml_X10_177 cf_X10_isWithin cs_X10_isWithin r_X10_isWithin rfl rfl (Nat.le_of_ble_eq_true rfl) (by decide) ?_
  refine J_t1 (bI_f hv9) ?_
  exact J_cvth (pc := 7) (N := mX10_needArgument) rfl dX10_weakest_7 ml_X10_181 cf_X10_needArgument cv_X10_needArgument (th_IA hl) rfl rfl (Nat.le_of_ble_eq_true rfl) (by decide) (by decide) (by decide) (rv_of (ci := 10) rfl rfl rfl) hQ
theorem e_X10_strength {g : Gp} {S : Sx} (hl : (gl g).stackTraces = false) {a b m : Nat} {d : HD} {wv : Nat → Nat × Nat} {f : Row} (hX : CX S 3 16 17 a b d m wv f) {x : Int32} (hv9 : ¬ (0 ≤ x ∧ x ≤ nI (dNs d) - 1)) : TH g mX10_strength 1 [.ref 0, .int x] S NS (sF S 0 14 (sf S 0 14 + 1)) := by
  refine TH_ofQ ⟨rfl, rfl⟩ (Nat.le_of_ble_eq_true rfl) (fun sz Q hQ => ?_)
  obtain ⟨hCL, hHL, hLL, hp2, hp3, hHC, hv, hW, hLC, hRC⟩ := id hX
  have n1 : dNs d ≤ 8 := hv.1
  have n2 : dNr d ≤ 10 := hv.2.1
  have n3 : dNp d ≤ 8 := hv.2.2.1
  refine J_aload_n (pc := 0) dX10_strength_0 rfl ?_
  refine J_aload_n (pc := 1) dX10_strength_1 rfl ?_
  refine J_getr (pc := 2) dX10_strength_2 kc10 fl_X10_27 rfl ?_
  refine J_getpN (pc := 5) dX10_strength_5 kc0 fl_X10_54 (by first | exact cvn_p2 (by assumption) | rfl) ?_
  refine J_tr hp2 ?_
  refine J_iload_n (pc := 8) dX10_strength_8 rfl ?_
  refine J_cnr (pc := 9) (N := mX1_hasSister) dX10_strength_9 ml_X10_195 cf_X1_hasSister cv_X1_hasSister (r_X1_hasSister hHL hHC hv) rfl rfl (Nat.le_of_ble_eq_true rfl) (by decide) (rv_of (ci := 1) (by first | exact hou_n (by assumption) | rfl) rfl rfl) ?_
  refine J_t1 (bI_f hv9) ?_
  exact J_cvth (pc := 12) (N := mX10_needElement) rfl dX10_strength_12 ml_X10_199 cf_X10_needElement cv_X10_needElement (th_NS hl) rfl rfl (Nat.le_of_ble_eq_true rfl) (by decide) (by decide) (by decide) (rv_of (ci := 10) rfl rfl rfl) hQ
theorem e_X10_ring {g : Gp} {S : Sx} (hl : (gl g).stackTraces = false) {a b m : Nat} {d : HD} {wv : Nat → Nat × Nat} {f : Row} (hX : CX S 3 16 17 a b d m wv f) {x : Int32} (hv9 : ¬ (0 ≤ x ∧ x ≤ nI (dNs d) - 1)) : TH g mX10_ring 1 [.ref 0, .int x] S NS (sF S 0 14 (sf S 0 14 + 1)) := by
  refine TH_ofQ ⟨rfl, rfl⟩ (Nat.le_of_ble_eq_true rfl) (fun sz Q hQ => ?_)
  obtain ⟨hCL, hHL, hLL, hp2, hp3, hHC, hv, hW, hLC, hRC⟩ := id hX
  have n1 : dNs d ≤ 8 := hv.1
  have n2 : dNr d ≤ 10 := hv.2.1
  have n3 : dNp d ≤ 8 := hv.2.2.1
  refine J_aload_n (pc := 0) dX10_ring_0 rfl ?_
  refine J_aload_n (pc := 1) dX10_ring_1 rfl ?_
  refine J_getr (pc := 2) dX10_ring_2 kc10 fl_X10_27 rfl ?_
  refine J_getpN (pc := 5) dX10_ring_5 kc0 fl_X10_54 (by first | exact cvn_p2 (by assumption) | rfl) ?_
  refine J_tr hp2 ?_
  refine J_iload_n (pc := 8) dX10_ring_8 rfl ?_
  refine J_cnr (pc := 9) (N := mX1_hasSister) dX10_ring_9 ml_X10_195 cf_X1_hasSister cv_X1_hasSister (r_X1_hasSister hHL hHC hv) rfl rfl (Nat.le_of_ble_eq_true rfl) (by decide) (rv_of (ci := 1) (by first | exact hou_n (by assumption) | rfl) rfl rfl) ?_
  refine J_t1 (bI_f hv9) ?_
  exact J_cvth (pc := 12) (N := mX10_needElement) rfl dX10_ring_12 ml_X10_199 cf_X10_needElement cv_X10_needElement (th_NS hl) rfl rfl (Nat.le_of_ble_eq_true rfl) (by decide) (by decide) (by decide) (rv_of (ci := 10) rfl rfl rfl) hQ
theorem e_X10_matched {g : Gp} {S : Sx} (hl : (gl g).stackTraces = false) {a b m : Nat} {d : HD} {wv : Nat → Nat × Nat} {f : Row} (hX : CX S 3 16 17 a b d m wv f) {x : Int32} (hv9 : ¬ (0 ≤ x ∧ x ≤ nI (dNp d) - 1)) : TH g mX10_matched 1 [.ref 0, .int x] S NS (sF S 0 14 (sf S 0 14 + 1)) := by
  refine TH_ofQ ⟨rfl, rfl⟩ (Nat.le_of_ble_eq_true rfl) (fun sz Q hQ => ?_)
  obtain ⟨hCL, hHL, hLL, hp2, hp3, hHC, hv, hW, hLC, hRC⟩ := id hX
  have n1 : dNs d ≤ 8 := hv.1
  have n2 : dNr d ≤ 10 := hv.2.1
  have n3 : dNp d ≤ 8 := hv.2.2.1
  refine J_aload_n (pc := 0) dX10_matched_0 rfl ?_
  refine J_aload_n (pc := 1) dX10_matched_1 rfl ?_
  refine J_getr (pc := 2) dX10_matched_2 kc10 fl_X10_27 rfl ?_
  refine J_getpN (pc := 5) dX10_matched_5 kc0 fl_X10_54 (by first | exact cvn_p2 (by assumption) | rfl) ?_
  refine J_tr hp2 ?_
  refine J_iload_n (pc := 8) dX10_matched_8 rfl ?_
  refine J_cnr (pc := 9) (N := mX1_hasPilgrim) dX10_matched_9 ml_X10_236 cf_X1_hasPilgrim cv_X1_hasPilgrim (r_X1_hasPilgrim hHL hHC hv) rfl rfl (Nat.le_of_ble_eq_true rfl) (by decide) (rv_of (ci := 1) (by first | exact hou_n (by assumption) | rfl) rfl rfl) ?_
  refine J_t1 (bI_f hv9) ?_
  exact J_cvth (pc := 12) (N := mX10_needElement) rfl dX10_matched_12 ml_X10_199 cf_X10_needElement cv_X10_needElement (th_NS hl) rfl rfl (Nat.le_of_ble_eq_true rfl) (by decide) (by decide) (by decide) (rv_of (ci := 10) rfl rfl rfl) hQ
theorem e1_X10_sister {g : Gp} {S : Sx} (hl : (gl g).stackTraces = false) {a b m : Nat} {d : HD} {wv : Nat → Nat × Nat} {f : Row} (hX : CX S 3 16 17 a b d m wv f) {x y : Int32} (hv9 : ¬ (0 ≤ x ∧ x ≤ nI (dNs d) - 1)) : TH g mX10_sister 1 [.ref 0, .int x, .int y] S NS (sF S 0 14 (sf S 0 14 + 1)) := by
  refine TH_ofQ ⟨rfl, rfl⟩ (Nat.le_of_ble_eq_true rfl) (fun sz Q hQ => ?_)
  obtain ⟨hCL, hHL, hLL, hp2, hp3, hHC, hv, hW, hLC, hRC⟩ := id hX
  have n1 : dNs d ≤ 8 := hv.1
  have n2 : dNr d ≤ 10 := hv.2.1
  have n3 : dNp d ≤ 8 := hv.2.2.1
  refine J_aload_n (pc := 0) dX10_sister_0 rfl ?_
  refine J_aload_n (pc := 1) dX10_sister_1 rfl ?_
  refine J_getr (pc := 2) dX10_sister_2 kc10 fl_X10_27 rfl ?_
  refine J_getpN (pc := 5) dX10_sister_5 kc0 fl_X10_54 (by first | exact cvn_p2 (by assumption) | rfl) ?_
  refine J_tr hp2 ?_
  refine J_iload_n (pc := 8) dX10_sister_8 rfl ?_
  refine J_cnr (pc := 9) (N := mX1_hasSister) dX10_sister_9 ml_X10_195 cf_X1_hasSister cv_X1_hasSister (r_X1_hasSister hHL hHC hv) rfl rfl (Nat.le_of_ble_eq_true rfl) (by decide) (rv_of (ci := 1) (by first | exact hou_n (by assumption) | rfl) rfl rfl) ?_
  refine J_t1 (bI_f hv9) ?_
  exact J_cvth (pc := 12) (N := mX10_needElement) rfl dX10_sister_12 ml_X10_199 cf_X10_needElement cv_X10_needElement (th_NS hl) rfl rfl (Nat.le_of_ble_eq_true rfl) (by decide) (by decide) (by decide) (rv_of (ci := 10) rfl rfl rfl) hQ
theorem e2_X10_sister {g : Gp} {S : Sx} (hl : (gl g).stackTraces = false) {a b m : Nat} {d : HD} {wv : Nat → Nat × Nat} {f : Row} (hX : CX S 3 16 17 a b d m wv f) {x y : Int32} (hv8 : 0 ≤ x ∧ x ≤ nI (dNs d) - 1) (hv9 : ¬ (0 ≤ y ∧ y ≤ 4)) : TH g mX10_sister 1 [.ref 0, .int x, .int y] S IA (sF S 0 15 (sf S 0 15 + 1)) := by
  refine TH_ofQ ⟨rfl, rfl⟩ (Nat.le_of_ble_eq_true rfl) (fun sz Q hQ => ?_)
  obtain ⟨hCL, hHL, hLL, hp2, hp3, hHC, hv, hW, hLC, hRC⟩ := id hX
  have n1 : dNs d ≤ 8 := hv.1
  have n2 : dNr d ≤ 10 := hv.2.1
  have n3 : dNp d ≤ 8 := hv.2.2.1
  refine J_aload_n (pc := 0) dX10_sister_0 rfl ?_
  refine J_aload_n (pc := 1) dX10_sister_1 rfl ?_
  refine J_getr (pc := 2) dX10_sister_2 kc10 fl_X10_27 rfl ?_
  refine J_getpN (pc := 5) dX10_sister_5 kc0 fl_X10_54 (by first | exact cvn_p2 (by assumption) | rfl) ?_
  refine J_tr hp2 ?_
  refine J_iload_n (pc := 8) dX10_sister_8 rfl ?_
  refine J_cnr (pc := 9) (N := mX1_hasSister) dX10_sister_9 ml_X10_195 cf_X1_hasSister cv_X1_hasSister (r_X1_hasSister hHL hHC hv) rfl rfl (Nat.le_of_ble_eq_true rfl) (by decide) (rv_of (ci := 1) (by first | exact hou_n (by assumption) | rfl) rfl rfl) ?_
  refine J_t1 (bI_t hv8) ?_
  refine J_cvv (pc := 12) (N := mX10_needElement) dX10_sister_12 ml_X10_199 cf_X10_needElement cv_X10_needElement r_X10_needElement_ok rfl rfl (Nat.le_of_ble_eq_true rfl) (by decide) (rv_of (ci := 10) rfl rfl rfl) ?_
  refine J_aload_n (pc := 15) dX10_sister_15 rfl ?_
  refine J_iload_n (pc := 16) dX10_sister_16 rfl ?_
  refine J_iconst (pc := 17) (v := 0) dX10_sister_17 (by decide) ?_
  refine J_iconst (pc := 18) (v := 4) dX10_sister_18 (by decide) ?_
  refine J_csr (pc := 19) (N := mX10_isWithin) dX10_sister_19 ml_X10_177 cf_X10_isWithin cs_X10_isWithin r_X10_isWithin rfl rfl (Nat.le_of_ble_eq_true rfl) (by decide) ?_
  refine J_t1 (bI_f hv9) ?_
  exact J_cvth (pc := 22) (N := mX10_needArgument) rfl dX10_sister_22 ml_X10_181 cf_X10_needArgument cv_X10_needArgument (th_IA hl) rfl rfl (Nat.le_of_ble_eq_true rfl) (by decide) (by decide) (by decide) (rv_of (ci := 10) rfl rfl rfl) hQ
theorem e1_X10_relic {g : Gp} {S : Sx} (hl : (gl g).stackTraces = false) {a b m : Nat} {d : HD} {wv : Nat → Nat × Nat} {f : Row} (hX : CX S 3 16 17 a b d m wv f) {x y : Int32} (hv9 : ¬ (0 ≤ x ∧ x ≤ nI (dNr d) - 1)) : TH g mX10_relic 1 [.ref 0, .int x, .int y] S NS (sF S 0 14 (sf S 0 14 + 1)) := by
  refine TH_ofQ ⟨rfl, rfl⟩ (Nat.le_of_ble_eq_true rfl) (fun sz Q hQ => ?_)
  obtain ⟨hCL, hHL, hLL, hp2, hp3, hHC, hv, hW, hLC, hRC⟩ := id hX
  have n1 : dNs d ≤ 8 := hv.1
  have n2 : dNr d ≤ 10 := hv.2.1
  have n3 : dNp d ≤ 8 := hv.2.2.1
  refine J_aload_n (pc := 0) dX10_relic_0 rfl ?_
  refine J_aload_n (pc := 1) dX10_relic_1 rfl ?_
  refine J_getr (pc := 2) dX10_relic_2 kc10 fl_X10_27 rfl ?_
  refine J_getpN (pc := 5) dX10_relic_5 kc0 fl_X10_54 (by first | exact cvn_p2 (by assumption) | rfl) ?_
  refine J_tr hp2 ?_
  refine J_iload_n (pc := 8) dX10_relic_8 rfl ?_
  refine J_cnr (pc := 9) (N := mX1_hasRelic) dX10_relic_9 ml_X10_215 cf_X1_hasRelic cv_X1_hasRelic (r_X1_hasRelic hHL hHC hv) rfl rfl (Nat.le_of_ble_eq_true rfl) (by decide) (rv_of (ci := 1) (by first | exact hou_n (by assumption) | rfl) rfl rfl) ?_
  refine J_t1 (bI_f hv9) ?_
  exact J_cvth (pc := 12) (N := mX10_needElement) rfl dX10_relic_12 ml_X10_199 cf_X10_needElement cv_X10_needElement (th_NS hl) rfl rfl (Nat.le_of_ble_eq_true rfl) (by decide) (by decide) (by decide) (rv_of (ci := 10) rfl rfl rfl) hQ
theorem e2_X10_relic {g : Gp} {S : Sx} (hl : (gl g).stackTraces = false) {a b m : Nat} {d : HD} {wv : Nat → Nat × Nat} {f : Row} (hX : CX S 3 16 17 a b d m wv f) {x y : Int32} (hv8 : 0 ≤ x ∧ x ≤ nI (dNr d) - 1) (hv9 : ¬ (0 ≤ y ∧ y ≤ 5)) : TH g mX10_relic 1 [.ref 0, .int x, .int y] S IA (sF S 0 15 (sf S 0 15 + 1)) := by
  refine TH_ofQ ⟨rfl, rfl⟩ (Nat.le_of_ble_eq_true rfl) (fun sz Q hQ => ?_)
  obtain ⟨hCL, hHL, hLL, hp2, hp3, hHC, hv, hW, hLC, hRC⟩ := id hX
  have n1 : dNs d ≤ 8 := hv.1
  have n2 : dNr d ≤ 10 := hv.2.1
  have n3 : dNp d ≤ 8 := hv.2.2.1
  refine J_aload_n (pc := 0) dX10_relic_0 rfl ?_
  refine J_aload_n (pc := 1) dX10_relic_1 rfl ?_
  refine J_getr (pc := 2) dX10_relic_2 kc10 fl_X10_27 rfl ?_
  refine J_getpN (pc := 5) dX10_relic_5 kc0 fl_X10_54 (by first | exact cvn_p2 (by assumption) | rfl) ?_
  refine J_tr hp2 ?_
  refine J_iload_n (pc := 8) dX10_relic_8 rfl ?_
  refine J_cnr (pc := 9) (N := mX1_hasRelic) dX10_relic_9 ml_X10_215 cf_X1_hasRelic cv_X1_hasRelic (r_X1_hasRelic hHL hHC hv) rfl rfl (Nat.le_of_ble_eq_true rfl) (by decide) (rv_of (ci := 1) (by first | exact hou_n (by assumption) | rfl) rfl rfl) ?_
  refine J_t1 (bI_t hv8) ?_
  refine J_cvv (pc := 12) (N := mX10_needElement) dX10_relic_12 ml_X10_199 cf_X10_needElement cv_X10_needElement r_X10_needElement_ok rfl rfl (Nat.le_of_ble_eq_true rfl) (by decide) (rv_of (ci := 10) rfl rfl rfl) ?_
  refine J_aload_n (pc := 15) dX10_relic_15 rfl ?_
  refine J_iload_n (pc := 16) dX10_relic_16 rfl ?_
  refine J_iconst (pc := 17) (v := 0) dX10_relic_17 (by decide) ?_
  refine J_iconst (pc := 18) (v := 5) dX10_relic_18 (by decide) ?_
  refine J_csr (pc := 19) (N := mX10_isWithin) dX10_relic_19 ml_X10_177 cf_X10_isWithin cs_X10_isWithin r_X10_isWithin rfl rfl (Nat.le_of_ble_eq_true rfl) (by decide) ?_
  refine J_t1 (bI_f hv9) ?_
  exact J_cvth (pc := 22) (N := mX10_needArgument) rfl dX10_relic_22 ml_X10_181 cf_X10_needArgument cv_X10_needArgument (th_IA hl) rfl rfl (Nat.le_of_ble_eq_true rfl) (by decide) (by decide) (by decide) (rv_of (ci := 10) rfl rfl rfl) hQ
theorem e1_X10_pilgrim {g : Gp} {S : Sx} (hl : (gl g).stackTraces = false) {a b m : Nat} {d : HD} {wv : Nat → Nat × Nat} {f : Row} (hX : CX S 3 16 17 a b d m wv f) {x y : Int32} (hv9 : ¬ (0 ≤ x ∧ x ≤ nI (dNp d) - 1)) : TH g mX10_pilgrim 1 [.ref 0, .int x, .int y] S NS (sF S 0 14 (sf S 0 14 + 1)) := by
  refine TH_ofQ ⟨rfl, rfl⟩ (Nat.le_of_ble_eq_true rfl) (fun sz Q hQ => ?_)
  obtain ⟨hCL, hHL, hLL, hp2, hp3, hHC, hv, hW, hLC, hRC⟩ := id hX
  have n1 : dNs d ≤ 8 := hv.1
  have n2 : dNr d ≤ 10 := hv.2.1
  have n3 : dNp d ≤ 8 := hv.2.2.1
  refine J_aload_n (pc := 0) dX10_pilgrim_0 rfl ?_
  refine J_aload_n (pc := 1) dX10_pilgrim_1 rfl ?_
  refine J_getr (pc := 2) dX10_pilgrim_2 kc10 fl_X10_27 rfl ?_
  refine J_getpN (pc := 5) dX10_pilgrim_5 kc0 fl_X10_54 (by first | exact cvn_p2 (by assumption) | rfl) ?_
  refine J_tr hp2 ?_
  refine J_iload_n (pc := 8) dX10_pilgrim_8 rfl ?_
  refine J_cnr (pc := 9) (N := mX1_hasPilgrim) dX10_pilgrim_9 ml_X10_236 cf_X1_hasPilgrim cv_X1_hasPilgrim (r_X1_hasPilgrim hHL hHC hv) rfl rfl (Nat.le_of_ble_eq_true rfl) (by decide) (rv_of (ci := 1) (by first | exact hou_n (by assumption) | rfl) rfl rfl) ?_
  refine J_t1 (bI_f hv9) ?_
  exact J_cvth (pc := 12) (N := mX10_needElement) rfl dX10_pilgrim_12 ml_X10_199 cf_X10_needElement cv_X10_needElement (th_NS hl) rfl rfl (Nat.le_of_ble_eq_true rfl) (by decide) (by decide) (by decide) (rv_of (ci := 10) rfl rfl rfl) hQ
theorem e2_X10_pilgrim {g : Gp} {S : Sx} (hl : (gl g).stackTraces = false) {a b m : Nat} {d : HD} {wv : Nat → Nat × Nat} {f : Row} (hX : CX S 3 16 17 a b d m wv f) {x y : Int32} (hv8 : 0 ≤ x ∧ x ≤ nI (dNp d) - 1) (hv9 : ¬ (0 ≤ y ∧ y ≤ 3)) : TH g mX10_pilgrim 1 [.ref 0, .int x, .int y] S IA (sF S 0 15 (sf S 0 15 + 1)) := by
  refine TH_ofQ ⟨rfl, rfl⟩ (Nat.le_of_ble_eq_true rfl) (fun sz Q hQ => ?_)
  obtain ⟨hCL, hHL, hLL, hp2, hp3, hHC, hv, hW, hLC, hRC⟩ := id hX
  have n1 : dNs d ≤ 8 := hv.1
  have n2 : dNr d ≤ 10 := hv.2.1
  have n3 : dNp d ≤ 8 := hv.2.2.1
  refine J_aload_n (pc := 0) dX10_pilgrim_0 rfl ?_
  refine J_aload_n (pc := 1) dX10_pilgrim_1 rfl ?_
  refine J_getr (pc := 2) dX10_pilgrim_2 kc10 fl_X10_27 rfl ?_
  refine J_getpN (pc := 5) dX10_pilgrim_5 kc0 fl_X10_54 (by first | exact cvn_p2 (by assumption) | rfl) ?_
  refine J_tr hp2 ?_
  refine J_iload_n (pc := 8) dX10_pilgrim_8 rfl ?_
  refine J_cnr (pc := 9) (N := mX1_hasPilgrim) dX10_pilgrim_9 ml_X10_236 cf_X1_hasPilgrim cv_X1_hasPilgrim (r_X1_hasPilgrim hHL hHC hv) rfl rfl (Nat.le_of_ble_eq_true rfl) (by decide) (rv_of (ci := 1) (by first | exact hou_n (by assumption) | rfl) rfl rfl) ?_
  refine J_t1 (bI_t hv8) ?_
  refine J_cvv (pc := 12) (N := mX10_needElement) dX10_pilgrim_12 ml_X10_199 cf_X10_needElement cv_X10_needElement r_X10_needElement_ok rfl rfl (Nat.le_of_ble_eq_true rfl) (by decide) (rv_of (ci := 10) rfl rfl rfl) ?_
  refine J_aload_n (pc := 15) dX10_pilgrim_15 rfl ?_
  refine J_iload_n (pc := 16) dX10_pilgrim_16 rfl ?_
  refine J_iconst (pc := 17) (v := 0) dX10_pilgrim_17 (by decide) ?_
  refine J_iconst (pc := 18) (v := 3) dX10_pilgrim_18 (by decide) ?_
  refine J_csr (pc := 19) (N := mX10_isWithin) dX10_pilgrim_19 ml_X10_177 cf_X10_isWithin cs_X10_isWithin r_X10_isWithin rfl rfl (Nat.le_of_ble_eq_true rfl) (by decide) ?_
  refine J_t1 (bI_f hv9) ?_
  exact J_cvth (pc := 22) (N := mX10_needArgument) rfl dX10_pilgrim_22 ml_X10_181 cf_X10_needArgument cv_X10_needArgument (th_IA hl) rfl rfl (Nat.le_of_ble_eq_true rfl) (by decide) (by decide) (by decide) (rv_of (ci := 10) rfl rfl rfl) hQ
theorem e1_X10_follows {g : Gp} {S : Sx} (hl : (gl g).stackTraces = false) {a b m : Nat} {d : HD} {wv : Nat → Nat × Nat} {f : Row} (hX : CX S 3 16 17 a b d m wv f) {x y : Int32} (hv9 : ¬ (0 ≤ x ∧ x ≤ nI (dNs d) - 1)) : TH g mX10_follows 1 [.ref 0, .int x, .int y] S NS (sF S 0 14 (sf S 0 14 + 1)) := by
  refine TH_ofQ ⟨rfl, rfl⟩ (Nat.le_of_ble_eq_true rfl) (fun sz Q hQ => ?_)
  obtain ⟨hCL, hHL, hLL, hp2, hp3, hHC, hv, hW, hLC, hRC⟩ := id hX
  have n1 : dNs d ≤ 8 := hv.1
  have n2 : dNr d ≤ 10 := hv.2.1
  have n3 : dNp d ≤ 8 := hv.2.2.1
  refine J_aload_n (pc := 0) dX10_follows_0 rfl ?_
  refine J_aload_n (pc := 1) dX10_follows_1 rfl ?_
  refine J_getr (pc := 2) dX10_follows_2 kc10 fl_X10_27 rfl ?_
  refine J_getpN (pc := 5) dX10_follows_5 kc0 fl_X10_54 (by first | exact cvn_p2 (by assumption) | rfl) ?_
  refine J_tr hp2 ?_
  refine J_iload_n (pc := 8) dX10_follows_8 rfl ?_
  refine J_cnr (pc := 9) (N := mX1_hasSister) dX10_follows_9 ml_X10_195 cf_X1_hasSister cv_X1_hasSister (r_X1_hasSister hHL hHC hv) rfl rfl (Nat.le_of_ble_eq_true rfl) (by decide) (rv_of (ci := 1) (by first | exact hou_n (by assumption) | rfl) rfl rfl) ?_
  refine J_t1 (bI_f hv9) ?_
  exact J_cvth (pc := 12) (N := mX10_needElement) rfl dX10_follows_12 ml_X10_199 cf_X10_needElement cv_X10_needElement (th_NS hl) rfl rfl (Nat.le_of_ble_eq_true rfl) (by decide) (by decide) (by decide) (rv_of (ci := 10) rfl rfl rfl) hQ
theorem e2_X10_follows {g : Gp} {S : Sx} (hl : (gl g).stackTraces = false) {a b m : Nat} {d : HD} {wv : Nat → Nat × Nat} {f : Row} (hX : CX S 3 16 17 a b d m wv f) {x y : Int32} (hv8 : 0 ≤ x ∧ x ≤ nI (dNs d) - 1) (hv9 : ¬ (0 ≤ y ∧ y ≤ 1000000)) : TH g mX10_follows 1 [.ref 0, .int x, .int y] S IA (sF S 0 15 (sf S 0 15 + 1)) := by
  refine TH_ofQ ⟨rfl, rfl⟩ (Nat.le_of_ble_eq_true rfl) (fun sz Q hQ => ?_)
  obtain ⟨hCL, hHL, hLL, hp2, hp3, hHC, hv, hW, hLC, hRC⟩ := id hX
  have n1 : dNs d ≤ 8 := hv.1
  have n2 : dNr d ≤ 10 := hv.2.1
  have n3 : dNp d ≤ 8 := hv.2.2.1
  refine J_aload_n (pc := 0) dX10_follows_0 rfl ?_
  refine J_aload_n (pc := 1) dX10_follows_1 rfl ?_
  refine J_getr (pc := 2) dX10_follows_2 kc10 fl_X10_27 rfl ?_
  refine J_getpN (pc := 5) dX10_follows_5 kc0 fl_X10_54 (by first | exact cvn_p2 (by assumption) | rfl) ?_
  refine J_tr hp2 ?_
  refine J_iload_n (pc := 8) dX10_follows_8 rfl ?_
  refine J_cnr (pc := 9) (N := mX1_hasSister) dX10_follows_9 ml_X10_195 cf_X1_hasSister cv_X1_hasSister (r_X1_hasSister hHL hHC hv) rfl rfl (Nat.le_of_ble_eq_true rfl) (by decide) (rv_of (ci := 1) (by first | exact hou_n (by assumption) | rfl) rfl rfl) ?_
  refine J_t1 (bI_t hv8) ?_
  refine J_cvv (pc := 12) (N := mX10_needElement) dX10_follows_12 ml_X10_199 cf_X10_needElement cv_X10_needElement r_X10_needElement_ok rfl rfl (Nat.le_of_ble_eq_true rfl) (by decide) (rv_of (ci := 10) rfl rfl rfl) ?_
  refine J_aload_n (pc := 15) dX10_follows_15 rfl ?_
  refine J_iload_n (pc := 16) dX10_follows_16 rfl ?_
  refine J_iconst (pc := 17) (v := 0) dX10_follows_17 (by decide) ?_
  refine J_ldcw (pc := 18) (v := 1000000) dX10_follows_18 kt_X10_308 ?_
  refine J_csr (pc := 21) (N := mX10_isWithin) dX10_follows_21 ml_X10_177 cf_X10_isWithin cs_X10_isWithin r_X10_isWithin rfl rfl (Nat.le_of_ble_eq_true rfl) (by decide) ?_
  refine J_t1 (bI_f hv9) ?_
  exact J_cvth (pc := 24) (N := mX10_needArgument) rfl dX10_follows_24 ml_X10_181 cf_X10_needArgument cv_X10_needArgument (th_IA hl) rfl rfl (Nat.le_of_ble_eq_true rfl) (by decide) (by decide) (by decide) (rv_of (ci := 10) rfl rfl rfl) hQ
theorem e1_X10_ahead {g : Gp} {S : Sx} (hl : (gl g).stackTraces = false) {a b m : Nat} {d : HD} {wv : Nat → Nat × Nat} {f : Row} (hX : CX S 3 16 17 a b d m wv f) {x y z : Int32} (hv9 : ¬ (0 ≤ x ∧ x ≤ nI (dNr d) - 1)) : TH g mX10_ahead 1 [.ref 0, .int x, .int y, .int z] S NS (sF S 0 14 (sf S 0 14 + 1)) := by
  refine TH_ofQ ⟨rfl, rfl⟩ (Nat.le_of_ble_eq_true rfl) (fun sz Q hQ => ?_)
  obtain ⟨hCL, hHL, hLL, hp2, hp3, hHC, hv, hW, hLC, hRC⟩ := id hX
  have n1 : dNs d ≤ 8 := hv.1
  have n2 : dNr d ≤ 10 := hv.2.1
  have n3 : dNp d ≤ 8 := hv.2.2.1
  refine J_aload_n (pc := 0) dX10_ahead_0 rfl ?_
  refine J_aload_n (pc := 1) dX10_ahead_1 rfl ?_
  refine J_getr (pc := 2) dX10_ahead_2 kc10 fl_X10_27 rfl ?_
  refine J_getpN (pc := 5) dX10_ahead_5 kc0 fl_X10_54 (by first | exact cvn_p2 (by assumption) | rfl) ?_
  refine J_tr hp2 ?_
  refine J_iload_n (pc := 8) dX10_ahead_8 rfl ?_
  refine J_cnr (pc := 9) (N := mX1_hasRelic) dX10_ahead_9 ml_X10_215 cf_X1_hasRelic cv_X1_hasRelic (r_X1_hasRelic hHL hHC hv) rfl rfl (Nat.le_of_ble_eq_true rfl) (by decide) (rv_of (ci := 1) (by first | exact hou_n (by assumption) | rfl) rfl rfl) ?_
  refine J_t1 (bI_f hv9) ?_
  exact J_cvth (pc := 12) (N := mX10_needElement) rfl dX10_ahead_12 ml_X10_199 cf_X10_needElement cv_X10_needElement (th_NS hl) rfl rfl (Nat.le_of_ble_eq_true rfl) (by decide) (by decide) (by decide) (rv_of (ci := 10) rfl rfl rfl) hQ
theorem e2_X10_ahead {g : Gp} {S : Sx} (hl : (gl g).stackTraces = false) {a b m : Nat} {d : HD} {wv : Nat → Nat × Nat} {f : Row} (hX : CX S 3 16 17 a b d m wv f) {x y z : Int32} (hv8 : 0 ≤ x ∧ x ≤ nI (dNr d) - 1) (hv9 : ¬ ((0 ≤ y ∧ y ≤ 99) ∧ (0 ≤ z ∧ z ≤ 1))) : TH g mX10_ahead 1 [.ref 0, .int x, .int y, .int z] S IA (sF S 0 15 (sf S 0 15 + 1)) := by
  refine TH_ofQ ⟨rfl, rfl⟩ (Nat.le_of_ble_eq_true rfl) (fun sz Q hQ => ?_)
  obtain ⟨hCL, hHL, hLL, hp2, hp3, hHC, hv, hW, hLC, hRC⟩ := id hX
  have n1 : dNs d ≤ 8 := hv.1
  have n2 : dNr d ≤ 10 := hv.2.1
  have n3 : dNp d ≤ 8 := hv.2.2.1
  refine J_aload_n (pc := 0) dX10_ahead_0 rfl ?_
  refine J_aload_n (pc := 1) dX10_ahead_1 rfl ?_
  refine J_getr (pc := 2) dX10_ahead_2 kc10 fl_X10_27 rfl ?_
  refine J_getpN (pc := 5) dX10_ahead_5 kc0 fl_X10_54 (by first | exact cvn_p2 (by assumption) | rfl) ?_
  refine J_tr hp2 ?_
  refine J_iload_n (pc := 8) dX10_ahead_8 rfl ?_
  refine J_cnr (pc := 9) (N := mX1_hasRelic) dX10_ahead_9 ml_X10_215 cf_X1_hasRelic cv_X1_hasRelic (r_X1_hasRelic hHL hHC hv) rfl rfl (Nat.le_of_ble_eq_true rfl) (by decide) (rv_of (ci := 1) (by first | exact hou_n (by assumption) | rfl) rfl rfl) ?_
  refine J_t1 (bI_t hv8) ?_
  refine J_cvv (pc := 12) (N := mX10_needElement) dX10_ahead_12 ml_X10_199 cf_X10_needElement cv_X10_needElement r_X10_needElement_ok rfl rfl (Nat.le_of_ble_eq_true rfl) (by decide) (rv_of (ci := 10) rfl rfl rfl) ?_
  refine J_aload_n (pc := 15) dX10_ahead_15 rfl ?_
  refine J_iload_n (pc := 16) dX10_ahead_16 rfl ?_
  refine J_iconst (pc := 17) (v := 0) dX10_ahead_17 (by decide) ?_
  refine J_bipush (pc := 18) (v := 99) dX10_ahead_18 (by decide) ?_
  refine J_csr (pc := 20) (N := mX10_isWithin) dX10_ahead_20 ml_X10_177 cf_X10_isWithin cs_X10_isWithin r_X10_isWithin rfl rfl (Nat.le_of_ble_eq_true rfl) (by decide) ?_
  refine J_ifp_eq (pc := 23) (tgt := 39) dX10_ahead_23 (by decide) (fun c23 => ?_) (fun c23 => ?_)
  · refine J_iconst (pc := 39) (v := 0) dX10_ahead_39 (by decide) ?_
    exact J_cvth (pc := 40) (N := mX10_needArgument) rfl dX10_ahead_40 ml_X10_181 cf_X10_needArgument cv_X10_needArgument (th_IA hl) rfl rfl (Nat.le_of_ble_eq_true rfl) (by decide) (by decide) (by decide) (rv_of (ci := 10) rfl rfl rfl) hQ
  · refine J_iload_n (pc := 26) dX10_ahead_26 rfl ?_
    refine J_iconst (pc := 27) (v := 0) dX10_ahead_27 (by decide) ?_
    refine J_iconst (pc := 28) (v := 1) dX10_ahead_28 (by decide) ?_
    refine J_csr (pc := 29) (N := mX10_isWithin) dX10_ahead_29 ml_X10_177 cf_X10_isWithin cs_X10_isWithin r_X10_isWithin rfl rfl (Nat.le_of_ble_eq_true rfl) (by decide) ?_
    refine J_ifp_eq (pc := 32) (tgt := 39) dX10_ahead_32 (by decide) (fun c32 => ?_) (fun c32 => ?_)
    · refine J_iconst (pc := 39) (v := 0) dX10_ahead_39 (by decide) ?_
      exact J_cvth (pc := 40) (N := mX10_needArgument) rfl dX10_ahead_40 ml_X10_181 cf_X10_needArgument cv_X10_needArgument (th_IA hl) rfl rfl (Nat.le_of_ble_eq_true rfl) (by decide) (by decide) (by decide) (rv_of (ci := 10) rfl rfl rfl) hQ
    · exact absurd ⟨c23, c32⟩ hv9
theorem e1_X10_best {g : Gp} {S : Sx} (hl : (gl g).stackTraces = false) {a b m : Nat} {d : HD} {wv : Nat → Nat × Nat} {f : Row} (hX : CX S 3 16 17 a b d m wv f) {x y z : Int32} (hv9 : ¬ (0 ≤ x ∧ x ≤ nI (dNr d) - 1)) : TH g mX10_best 1 [.ref 0, .int x, .int y, .int z] S NS (sF S 0 14 (sf S 0 14 + 1)) := by
  refine TH_ofQ ⟨rfl, rfl⟩ (Nat.le_of_ble_eq_true rfl) (fun sz Q hQ => ?_)
  obtain ⟨hCL, hHL, hLL, hp2, hp3, hHC, hv, hW, hLC, hRC⟩ := id hX
  have n1 : dNs d ≤ 8 := hv.1
  have n2 : dNr d ≤ 10 := hv.2.1
  have n3 : dNp d ≤ 8 := hv.2.2.1
  refine J_aload_n (pc := 0) dX10_best_0 rfl ?_
  refine J_aload_n (pc := 1) dX10_best_1 rfl ?_
  refine J_getr (pc := 2) dX10_best_2 kc10 fl_X10_27 rfl ?_
  refine J_getpN (pc := 5) dX10_best_5 kc0 fl_X10_54 (by first | exact cvn_p2 (by assumption) | rfl) ?_
  refine J_tr hp2 ?_
  refine J_iload_n (pc := 8) dX10_best_8 rfl ?_
  refine J_cnr (pc := 9) (N := mX1_hasRelic) dX10_best_9 ml_X10_215 cf_X1_hasRelic cv_X1_hasRelic (r_X1_hasRelic hHL hHC hv) rfl rfl (Nat.le_of_ble_eq_true rfl) (by decide) (rv_of (ci := 1) (by first | exact hou_n (by assumption) | rfl) rfl rfl) ?_
  refine J_t1 (bI_f hv9) ?_
  exact J_cvth (pc := 12) (N := mX10_needElement) rfl dX10_best_12 ml_X10_199 cf_X10_needElement cv_X10_needElement (th_NS hl) rfl rfl (Nat.le_of_ble_eq_true rfl) (by decide) (by decide) (by decide) (rv_of (ci := 10) rfl rfl rfl) hQ
theorem e2_X10_best {g : Gp} {S : Sx} (hl : (gl g).stackTraces = false) {a b m : Nat} {d : HD} {wv : Nat → Nat × Nat} {f : Row} (hX : CX S 3 16 17 a b d m wv f) {x y z : Int32} (hv8 : 0 ≤ x ∧ x ≤ nI (dNr d) - 1) (hv9 : ¬ ((0 ≤ y ∧ y ≤ 6) ∧ (0 ≤ z ∧ z ≤ 1))) : TH g mX10_best 1 [.ref 0, .int x, .int y, .int z] S IA (sF S 0 15 (sf S 0 15 + 1)) := by
  refine TH_ofQ ⟨rfl, rfl⟩ (Nat.le_of_ble_eq_true rfl) (fun sz Q hQ => ?_)
  obtain ⟨hCL, hHL, hLL, hp2, hp3, hHC, hv, hW, hLC, hRC⟩ := id hX
  have n1 : dNs d ≤ 8 := hv.1
  have n2 : dNr d ≤ 10 := hv.2.1
  have n3 : dNp d ≤ 8 := hv.2.2.1
  refine J_aload_n (pc := 0) dX10_best_0 rfl ?_
  refine J_aload_n (pc := 1) dX10_best_1 rfl ?_
  refine J_getr (pc := 2) dX10_best_2 kc10 fl_X10_27 rfl ?_
  refine J_getpN (pc := 5) dX10_best_5 kc0 fl_X10_54 (by first | exact cvn_p2 (by assumption) | rfl) ?_
  refine J_tr hp2 ?_
  refine J_iload_n (pc := 8) dX10_best_8 rfl ?_
  refine J_cnr (pc := 9) (N := mX1_hasRelic) dX10_best_9 ml_X10_215 cf_X1_hasRelic cv_X1_hasRelic (r_X1_hasRelic hHL hHC hv) rfl rfl (Nat.le_of_ble_eq_true rfl) (by decide) (rv_of (ci := 1) (by first | exact hou_n (by assumption) | rfl) rfl rfl) ?_
  refine J_t1 (bI_t hv8) ?_
  refine J_cvv (pc := 12) (N := mX10_needElement) dX10_best_12 ml_X10_199 cf_X10_needElement cv_X10_needElement r_X10_needElement_ok rfl rfl (Nat.le_of_ble_eq_true rfl) (by decide) (rv_of (ci := 10) rfl rfl rfl) ?_
  refine J_aload_n (pc := 15) dX10_best_15 rfl ?_
  refine J_iload_n (pc := 16) dX10_best_16 rfl ?_
  refine J_iconst (pc := 17) (v := 0) dX10_best_17 (by decide) ?_
  refine J_bipush (pc := 18) (v := 6) dX10_best_18 (by decide) ?_
  refine J_csr (pc := 20) (N := mX10_isWithin) dX10_best_20 ml_X10_177 cf_X10_isWithin cs_X10_isWithin r_X10_isWithin rfl rfl (Nat.le_of_ble_eq_true rfl) (by decide) ?_
  refine J_ifp_eq (pc := 23) (tgt := 39) dX10_best_23 (by decide) (fun c23 => ?_) (fun c23 => ?_)
  · refine J_iconst (pc := 39) (v := 0) dX10_best_39 (by decide) ?_
    exact J_cvth (pc := 40) (N := mX10_needArgument) rfl dX10_best_40 ml_X10_181 cf_X10_needArgument cv_X10_needArgument (th_IA hl) rfl rfl (Nat.le_of_ble_eq_true rfl) (by decide) (by decide) (by decide) (rv_of (ci := 10) rfl rfl rfl) hQ
  · refine J_iload_n (pc := 26) dX10_best_26 rfl ?_
    refine J_iconst (pc := 27) (v := 0) dX10_best_27 (by decide) ?_
    refine J_iconst (pc := 28) (v := 1) dX10_best_28 (by decide) ?_
    refine J_csr (pc := 29) (N := mX10_isWithin) dX10_best_29 ml_X10_177 cf_X10_isWithin cs_X10_isWithin r_X10_isWithin rfl rfl (Nat.le_of_ble_eq_true rfl) (by decide) ?_
    refine J_ifp_eq (pc := 32) (tgt := 39) dX10_best_32 (by decide) (fun c32 => ?_) (fun c32 => ?_)
    · refine J_iconst (pc := 39) (v := 0) dX10_best_39 (by decide) ?_
      exact J_cvth (pc := 40) (N := mX10_needArgument) rfl dX10_best_40 ml_X10_181 cf_X10_needArgument cv_X10_needArgument (th_IA hl) rfl rfl (Nat.le_of_ble_eq_true rfl) (by decide) (by decide) (by decide) (rv_of (ci := 10) rfl rfl rfl) hQ
    · exact absurd ⟨c23, c32⟩ hv9
theorem e1_X10_without {g : Gp} {S : Sx} (hl : (gl g).stackTraces = false) {a b m : Nat} {d : HD} {wv : Nat → Nat × Nat} {f : Row} (hX : CX S 3 16 17 a b d m wv f) {x y z : Int32} (hv9 : ¬ (0 ≤ x ∧ x ≤ nI (dNs d) - 1)) : TH g mX10_without 1 [.ref 0, .int x, .int y, .int z] S NS (sF S 0 14 (sf S 0 14 + 1)) := by
  refine TH_ofQ ⟨rfl, rfl⟩ (Nat.le_of_ble_eq_true rfl) (fun sz Q hQ => ?_)
  obtain ⟨hCL, hHL, hLL, hp2, hp3, hHC, hv, hW, hLC, hRC⟩ := id hX
  have n1 : dNs d ≤ 8 := hv.1
  have n2 : dNr d ≤ 10 := hv.2.1
  have n3 : dNp d ≤ 8 := hv.2.2.1
  refine J_aload_n (pc := 0) dX10_without_0 rfl ?_
  refine J_aload_n (pc := 1) dX10_without_1 rfl ?_
  refine J_getr (pc := 2) dX10_without_2 kc10 fl_X10_27 rfl ?_
  refine J_getpN (pc := 5) dX10_without_5 kc0 fl_X10_54 (by first | exact cvn_p2 (by assumption) | rfl) ?_
  refine J_tr hp2 ?_
  refine J_iload_n (pc := 8) dX10_without_8 rfl ?_
  refine J_cnr (pc := 9) (N := mX1_hasSister) dX10_without_9 ml_X10_195 cf_X1_hasSister cv_X1_hasSister (r_X1_hasSister hHL hHC hv) rfl rfl (Nat.le_of_ble_eq_true rfl) (by decide) (rv_of (ci := 1) (by first | exact hou_n (by assumption) | rfl) rfl rfl) ?_
  refine J_t1 (bI_f hv9) ?_
  exact J_cvth (pc := 12) (N := mX10_needElement) rfl dX10_without_12 ml_X10_199 cf_X10_needElement cv_X10_needElement (th_NS hl) rfl rfl (Nat.le_of_ble_eq_true rfl) (by decide) (by decide) (by decide) (rv_of (ci := 10) rfl rfl rfl) hQ
theorem e2_X10_without {g : Gp} {S : Sx} (hl : (gl g).stackTraces = false) {a b m : Nat} {d : HD} {wv : Nat → Nat × Nat} {f : Row} (hX : CX S 3 16 17 a b d m wv f) {x y z : Int32} (hv8 : 0 ≤ x ∧ x ≤ nI (dNs d) - 1) (hv9 : ¬ ((0 ≤ y ∧ y ≤ 12) ∧ (0 ≤ z ∧ z ≤ 1))) : TH g mX10_without 1 [.ref 0, .int x, .int y, .int z] S IA (sF S 0 15 (sf S 0 15 + 1)) := by
  refine TH_ofQ ⟨rfl, rfl⟩ (Nat.le_of_ble_eq_true rfl) (fun sz Q hQ => ?_)
  obtain ⟨hCL, hHL, hLL, hp2, hp3, hHC, hv, hW, hLC, hRC⟩ := id hX
  have n1 : dNs d ≤ 8 := hv.1
  have n2 : dNr d ≤ 10 := hv.2.1
  have n3 : dNp d ≤ 8 := hv.2.2.1
  refine J_aload_n (pc := 0) dX10_without_0 rfl ?_
  refine J_aload_n (pc := 1) dX10_without_1 rfl ?_
  refine J_getr (pc := 2) dX10_without_2 kc10 fl_X10_27 rfl ?_
  refine J_getpN (pc := 5) dX10_without_5 kc0 fl_X10_54 (by first | exact cvn_p2 (by assumption) | rfl) ?_
  refine J_tr hp2 ?_
  refine J_iload_n (pc := 8) dX10_without_8 rfl ?_
  refine J_cnr (pc := 9) (N := mX1_hasSister) dX10_without_9 ml_X10_195 cf_X1_hasSister cv_X1_hasSister (r_X1_hasSister hHL hHC hv) rfl rfl (Nat.le_of_ble_eq_true rfl) (by decide) (rv_of (ci := 1) (by first | exact hou_n (by assumption) | rfl) rfl rfl) ?_
  refine J_t1 (bI_t hv8) ?_
  refine J_cvv (pc := 12) (N := mX10_needElement) dX10_without_12 ml_X10_199 cf_X10_needElement cv_X10_needElement r_X10_needElement_ok rfl rfl (Nat.le_of_ble_eq_true rfl) (by decide) (rv_of (ci := 10) rfl rfl rfl) ?_
  refine J_aload_n (pc := 15) dX10_without_15 rfl ?_
  refine J_iload_n (pc := 16) dX10_without_16 rfl ?_
  refine J_iconst (pc := 17) (v := 0) dX10_without_17 (by decide) ?_
  refine J_bipush (pc := 18) (v := 12) dX10_without_18 (by decide) ?_
  refine J_csr (pc := 20) (N := mX10_isWithin) dX10_without_20 ml_X10_177 cf_X10_isWithin cs_X10_isWithin r_X10_isWithin rfl rfl (Nat.le_of_ble_eq_true rfl) (by decide) ?_
  refine J_ifp_eq (pc := 23) (tgt := 39) dX10_without_23 (by decide) (fun c23 => ?_) (fun c23 => ?_)
  · refine J_iconst (pc := 39) (v := 0) dX10_without_39 (by decide) ?_
    exact J_cvth (pc := 40) (N := mX10_needArgument) rfl dX10_without_40 ml_X10_181 cf_X10_needArgument cv_X10_needArgument (th_IA hl) rfl rfl (Nat.le_of_ble_eq_true rfl) (by decide) (by decide) (by decide) (rv_of (ci := 10) rfl rfl rfl) hQ
  · refine J_iload_n (pc := 26) dX10_without_26 rfl ?_
    refine J_iconst (pc := 27) (v := 0) dX10_without_27 (by decide) ?_
    refine J_iconst (pc := 28) (v := 1) dX10_without_28 (by decide) ?_
    refine J_csr (pc := 29) (N := mX10_isWithin) dX10_without_29 ml_X10_177 cf_X10_isWithin cs_X10_isWithin r_X10_isWithin rfl rfl (Nat.le_of_ble_eq_true rfl) (by decide) ?_
    refine J_ifp_eq (pc := 32) (tgt := 39) dX10_without_32 (by decide) (fun c32 => ?_) (fun c32 => ?_)
    · refine J_iconst (pc := 39) (v := 0) dX10_without_39 (by decide) ?_
      exact J_cvth (pc := 40) (N := mX10_needArgument) rfl dX10_without_40 ml_X10_181 cf_X10_needArgument cv_X10_needArgument (th_IA hl) rfl rfl (Nat.le_of_ble_eq_true rfl) (by decide) (by decide) (by decide) (rv_of (ci := 10) rfl rfl rfl) hQ
    · exact absurd ⟨c23, c32⟩ hv9
theorem e1_X10_alms {g : Gp} {S : Sx} (hl : (gl g).stackTraces = false) {a b m : Nat} {d : HD} {wv : Nat → Nat × Nat} {f : Row} (hX : CX S 3 16 17 a b d m wv f) {x y z : Int32} (hv9 : ¬ (0 ≤ x ∧ x ≤ nI (dNp d) - 1)) : TH g mX10_alms 1 [.ref 0, .int x, .int y, .int z] S NS (sF S 0 14 (sf S 0 14 + 1)) := by
  refine TH_ofQ ⟨rfl, rfl⟩ (Nat.le_of_ble_eq_true rfl) (fun sz Q hQ => ?_)
  obtain ⟨hCL, hHL, hLL, hp2, hp3, hHC, hv, hW, hLC, hRC⟩ := id hX
  have n1 : dNs d ≤ 8 := hv.1
  have n2 : dNr d ≤ 10 := hv.2.1
  have n3 : dNp d ≤ 8 := hv.2.2.1
  refine J_aload_n (pc := 0) dX10_alms_0 rfl ?_
  refine J_aload_n (pc := 1) dX10_alms_1 rfl ?_
  refine J_getr (pc := 2) dX10_alms_2 kc10 fl_X10_27 rfl ?_
  refine J_getpN (pc := 5) dX10_alms_5 kc0 fl_X10_54 (by first | exact cvn_p2 (by assumption) | rfl) ?_
  refine J_tr hp2 ?_
  refine J_iload_n (pc := 8) dX10_alms_8 rfl ?_
  refine J_cnr (pc := 9) (N := mX1_hasPilgrim) dX10_alms_9 ml_X10_236 cf_X1_hasPilgrim cv_X1_hasPilgrim (r_X1_hasPilgrim hHL hHC hv) rfl rfl (Nat.le_of_ble_eq_true rfl) (by decide) (rv_of (ci := 1) (by first | exact hou_n (by assumption) | rfl) rfl rfl) ?_
  refine J_t1 (bI_f hv9) ?_
  exact J_cvth (pc := 12) (N := mX10_needElement) rfl dX10_alms_12 ml_X10_199 cf_X10_needElement cv_X10_needElement (th_NS hl) rfl rfl (Nat.le_of_ble_eq_true rfl) (by decide) (by decide) (by decide) (rv_of (ci := 10) rfl rfl rfl) hQ
theorem e2_X10_alms {g : Gp} {S : Sx} (hl : (gl g).stackTraces = false) {a b m : Nat} {d : HD} {wv : Nat → Nat × Nat} {f : Row} (hX : CX S 3 16 17 a b d m wv f) {x y z : Int32} (hv8 : 0 ≤ x ∧ x ≤ nI (dNp d) - 1) (hv9 : ¬ ((0 ≤ y ∧ y ≤ 1 <<< (nI (dNp d) &&& 31) - 1) ∧ (0 ≤ z ∧ z ≤ 999))) : TH g mX10_alms 1 [.ref 0, .int x, .int y, .int z] S IA (sF S 0 15 (sf S 0 15 + 1)) := by
  refine TH_ofQ ⟨rfl, rfl⟩ (Nat.le_of_ble_eq_true rfl) (fun sz Q hQ => ?_)
  obtain ⟨hCL, hHL, hLL, hp2, hp3, hHC, hv, hW, hLC, hRC⟩ := id hX
  have n1 : dNs d ≤ 8 := hv.1
  have n2 : dNr d ≤ 10 := hv.2.1
  have n3 : dNp d ≤ 8 := hv.2.2.1
  refine J_aload_n (pc := 0) dX10_alms_0 rfl ?_
  refine J_aload_n (pc := 1) dX10_alms_1 rfl ?_
  refine J_getr (pc := 2) dX10_alms_2 kc10 fl_X10_27 rfl ?_
  refine J_getpN (pc := 5) dX10_alms_5 kc0 fl_X10_54 (by first | exact cvn_p2 (by assumption) | rfl) ?_
  refine J_tr hp2 ?_
  refine J_iload_n (pc := 8) dX10_alms_8 rfl ?_
  refine J_cnr (pc := 9) (N := mX1_hasPilgrim) dX10_alms_9 ml_X10_236 cf_X1_hasPilgrim cv_X1_hasPilgrim (r_X1_hasPilgrim hHL hHC hv) rfl rfl (Nat.le_of_ble_eq_true rfl) (by decide) (rv_of (ci := 1) (by first | exact hou_n (by assumption) | rfl) rfl rfl) ?_
  refine J_t1 (bI_t hv8) ?_
  refine J_cvv (pc := 12) (N := mX10_needElement) dX10_alms_12 ml_X10_199 cf_X10_needElement cv_X10_needElement r_X10_needElement_ok rfl rfl (Nat.le_of_ble_eq_true rfl) (by decide) (rv_of (ci := 10) rfl rfl rfl) ?_
  refine J_aload_n (pc := 15) dX10_alms_15 rfl ?_
  refine J_iload_n (pc := 16) dX10_alms_16 rfl ?_
  refine J_iconst (pc := 17) (v := 0) dX10_alms_17 (by decide) ?_
  refine J_iconst (pc := 18) (v := 1) dX10_alms_18 (by decide) ?_
  refine J_aload_n (pc := 19) dX10_alms_19 rfl ?_
  refine J_getr (pc := 20) dX10_alms_20 kc10 fl_X10_27 rfl ?_
  refine J_getpN (pc := 23) dX10_alms_23 kc0 fl_X10_54 (by first | exact cvn_p2 (by assumption) | rfl) ?_
  refine J_tr hp2 ?_
  refine J_getiN (pc := 26) dX10_alms_26 kc1 fl_X10_188 (by first | exact hou_i10 (by assumption) | rfl) ?_
  refine J_t1 hHC.2.2.1 ?_
  refine J_ishl (pc := 29) dX10_alms_29 ?_
  refine J_iconst (pc := 30) (v := 1) dX10_alms_30 (by decide) ?_
  refine J_isub (pc := 31) dX10_alms_31 ?_
  refine J_csr (pc := 32) (N := mX10_isWithin) dX10_alms_32 ml_X10_177 cf_X10_isWithin cs_X10_isWithin r_X10_isWithin rfl rfl (Nat.le_of_ble_eq_true rfl) (by decide) ?_
  refine J_ifp_eq (pc := 35) (tgt := 53) dX10_alms_35 (by decide) (fun c35 => ?_) (fun c35 => ?_)
  · refine J_iconst (pc := 53) (v := 0) dX10_alms_53 (by decide) ?_
    exact J_cvth (pc := 54) (N := mX10_needArgument) rfl dX10_alms_54 ml_X10_181 cf_X10_needArgument cv_X10_needArgument (th_IA hl) rfl rfl (Nat.le_of_ble_eq_true rfl) (by decide) (by decide) (by decide) (rv_of (ci := 10) rfl rfl rfl) hQ
  · refine J_iload_n (pc := 38) dX10_alms_38 rfl ?_
    refine J_iconst (pc := 39) (v := 0) dX10_alms_39 (by decide) ?_
    refine J_sipush (pc := 40) (v := 999) dX10_alms_40 (by decide) ?_
    refine J_csr (pc := 43) (N := mX10_isWithin) dX10_alms_43 ml_X10_177 cf_X10_isWithin cs_X10_isWithin r_X10_isWithin rfl rfl (Nat.le_of_ble_eq_true rfl) (by decide) ?_
    refine J_ifp_eq (pc := 46) (tgt := 53) dX10_alms_46 (by decide) (fun c46 => ?_) (fun c46 => ?_)
    · refine J_iconst (pc := 53) (v := 0) dX10_alms_53 (by decide) ?_
      exact J_cvth (pc := 54) (N := mX10_needArgument) rfl dX10_alms_54 ml_X10_181 cf_X10_needArgument cv_X10_needArgument (th_IA hl) rfl rfl (Nat.le_of_ble_eq_true rfl) (by decide) (by decide) (by decide) (rv_of (ci := 10) rfl rfl rfl) hQ
    · exact absurd ⟨c35, c46⟩ hv9
theorem e_X10_can {g : Gp} {S : Sx} (hl : (gl g).stackTraces = false) {a b m : Nat} {d : HD} {wv : Nat → Nat × Nat} {f : Row} (hX : CX S 3 16 17 a b d m wv f) {x y : Int32} (hv9 : ¬ ((0 ≤ x ∧ x ≤ nI (dNr d) - 1) ∧ (0 ≤ y ∧ y ≤ nI (dNp d) - 1))) : TH g mX10_can 1 [.ref 0, .int x, .int y] S NS (sF S 0 14 (sf S 0 14 + 1)) := by
  refine TH_ofQ ⟨rfl, rfl⟩ (Nat.le_of_ble_eq_true rfl) (fun sz Q hQ => ?_)
  obtain ⟨hCL, hHL, hLL, hp2, hp3, hHC, hv, hW, hLC, hRC⟩ := id hX
  have n1 : dNs d ≤ 8 := hv.1
  have n2 : dNr d ≤ 10 := hv.2.1
  have n3 : dNp d ≤ 8 := hv.2.2.1
  refine J_aload_n (pc := 0) dX10_can_0 rfl ?_
  refine J_aload_n (pc := 1) dX10_can_1 rfl ?_
  refine J_getr (pc := 2) dX10_can_2 kc10 fl_X10_27 rfl ?_
  refine J_getpN (pc := 5) dX10_can_5 kc0 fl_X10_54 (by first | exact cvn_p2 (by assumption) | rfl) ?_
  refine J_tr hp2 ?_
  refine J_iload_n (pc := 8) dX10_can_8 rfl ?_
  refine J_cnr (pc := 9) (N := mX1_hasRelic) dX10_can_9 ml_X10_215 cf_X1_hasRelic cv_X1_hasRelic (r_X1_hasRelic hHL hHC hv) rfl rfl (Nat.le_of_ble_eq_true rfl) (by decide) (rv_of (ci := 1) (by first | exact hou_n (by assumption) | rfl) rfl rfl) ?_
  refine J_ifp_eq (pc := 12) (tgt := 33) dX10_can_12 (by decide) (fun c12 => ?_) (fun c12 => ?_)
  · refine J_iconst (pc := 33) (v := 0) dX10_can_33 (by decide) ?_
    exact J_cvth (pc := 34) (N := mX10_needElement) rfl dX10_can_34 ml_X10_199 cf_X10_needElement cv_X10_needElement (th_NS hl) rfl rfl (Nat.le_of_ble_eq_true rfl) (by decide) (by decide) (by decide) (rv_of (ci := 10) rfl rfl rfl) hQ
  · refine J_aload_n (pc := 15) dX10_can_15 rfl ?_
    refine J_getr (pc := 16) dX10_can_16 kc10 fl_X10_27 rfl ?_
    refine J_getpN (pc := 19) dX10_can_19 kc0 fl_X10_54 (by first | exact cvn_p2 (by assumption) | rfl) ?_
    refine J_tr hp2 ?_
    refine J_iload_n (pc := 22) dX10_can_22 rfl ?_
    refine J_cnr (pc := 23) (N := mX1_hasPilgrim) dX10_can_23 ml_X10_236 cf_X1_hasPilgrim cv_X1_hasPilgrim (r_X1_hasPilgrim hHL hHC hv) rfl rfl (Nat.le_of_ble_eq_true rfl) (by decide) (rv_of (ci := 1) (by first | exact hou_n (by assumption) | rfl) rfl rfl) ?_
    refine J_ifp_eq (pc := 26) (tgt := 33) dX10_can_26 (by decide) (fun c26 => ?_) (fun c26 => ?_)
    · refine J_iconst (pc := 33) (v := 0) dX10_can_33 (by decide) ?_
      exact J_cvth (pc := 34) (N := mX10_needElement) rfl dX10_can_34 ml_X10_199 cf_X10_needElement cv_X10_needElement (th_NS hl) rfl rfl (Nat.le_of_ble_eq_true rfl) (by decide) (by decide) (by decide) (rv_of (ci := 10) rfl rfl rfl) hQ
    · exact absurd ⟨c12, c26⟩ hv9
theorem e_X10_when {g : Gp} {S : Sx} (hl : (gl g).stackTraces = false) {a b m : Nat} {d : HD} {wv : Nat → Nat × Nat} {f : Row} (hX : CX S 3 16 17 a b d m wv f) {x y : Int32} (hv9 : ¬ ((0 ≤ x ∧ x ≤ nI (dNr d) - 1) ∧ (0 ≤ y ∧ y ≤ nI (dNp d) - 1))) : TH g mX10_when 1 [.ref 0, .int x, .int y] S NS (sF S 0 14 (sf S 0 14 + 1)) := by
  refine TH_ofQ ⟨rfl, rfl⟩ (Nat.le_of_ble_eq_true rfl) (fun sz Q hQ => ?_)
  obtain ⟨hCL, hHL, hLL, hp2, hp3, hHC, hv, hW, hLC, hRC⟩ := id hX
  have n1 : dNs d ≤ 8 := hv.1
  have n2 : dNr d ≤ 10 := hv.2.1
  have n3 : dNp d ≤ 8 := hv.2.2.1
  refine J_aload_n (pc := 0) dX10_when_0 rfl ?_
  refine J_aload_n (pc := 1) dX10_when_1 rfl ?_
  refine J_getr (pc := 2) dX10_when_2 kc10 fl_X10_27 rfl ?_
  refine J_getpN (pc := 5) dX10_when_5 kc0 fl_X10_54 (by first | exact cvn_p2 (by assumption) | rfl) ?_
  refine J_tr hp2 ?_
  refine J_iload_n (pc := 8) dX10_when_8 rfl ?_
  refine J_cnr (pc := 9) (N := mX1_hasRelic) dX10_when_9 ml_X10_215 cf_X1_hasRelic cv_X1_hasRelic (r_X1_hasRelic hHL hHC hv) rfl rfl (Nat.le_of_ble_eq_true rfl) (by decide) (rv_of (ci := 1) (by first | exact hou_n (by assumption) | rfl) rfl rfl) ?_
  refine J_ifp_eq (pc := 12) (tgt := 33) dX10_when_12 (by decide) (fun c12 => ?_) (fun c12 => ?_)
  · refine J_iconst (pc := 33) (v := 0) dX10_when_33 (by decide) ?_
    exact J_cvth (pc := 34) (N := mX10_needElement) rfl dX10_when_34 ml_X10_199 cf_X10_needElement cv_X10_needElement (th_NS hl) rfl rfl (Nat.le_of_ble_eq_true rfl) (by decide) (by decide) (by decide) (rv_of (ci := 10) rfl rfl rfl) hQ
  · refine J_aload_n (pc := 15) dX10_when_15 rfl ?_
    refine J_getr (pc := 16) dX10_when_16 kc10 fl_X10_27 rfl ?_
    refine J_getpN (pc := 19) dX10_when_19 kc0 fl_X10_54 (by first | exact cvn_p2 (by assumption) | rfl) ?_
    refine J_tr hp2 ?_
    refine J_iload_n (pc := 22) dX10_when_22 rfl ?_
    refine J_cnr (pc := 23) (N := mX1_hasPilgrim) dX10_when_23 ml_X10_236 cf_X1_hasPilgrim cv_X1_hasPilgrim (r_X1_hasPilgrim hHL hHC hv) rfl rfl (Nat.le_of_ble_eq_true rfl) (by decide) (rv_of (ci := 1) (by first | exact hou_n (by assumption) | rfl) rfl rfl) ?_
    refine J_ifp_eq (pc := 26) (tgt := 33) dX10_when_26 (by decide) (fun c26 => ?_) (fun c26 => ?_)
    · refine J_iconst (pc := 33) (v := 0) dX10_when_33 (by decide) ?_
      exact J_cvth (pc := 34) (N := mX10_needElement) rfl dX10_when_34 ml_X10_199 cf_X10_needElement cv_X10_needElement (th_NS hl) rfl rfl (Nat.le_of_ble_eq_true rfl) (by decide) (by decide) (by decide) (rv_of (ci := 10) rfl rfl rfl) hQ
    · exact absurd ⟨c12, c26⟩ hv9
theorem e_X10_tempted {g : Gp} {S : Sx} (hl : (gl g).stackTraces = false)  {x y z : Int32} (hv9 : ¬ ((0 ≤ x ∧ x ≤ 99) ∧ (0 ≤ y ∧ y ≤ 99) ∧ (0 ≤ z ∧ z ≤ 2))) : TH g mX10_tempted 1 [.ref 0, .int x, .int y, .int z] S IA (sF S 0 15 (sf S 0 15 + 1)) := by
  refine TH_ofQ ⟨rfl, rfl⟩ (Nat.le_of_ble_eq_true rfl) (fun sz Q hQ => ?_)
  refine J_aload_n (pc := 0) dX10_tempted_0 rfl ?_
  refine J_iload_n (pc := 1) dX10_tempted_1 rfl ?_
  refine J_iconst (pc := 2) (v := 0) dX10_tempted_2 (by decide) ?_
  refine J_bipush (pc := 3) (v := 99) dX10_tempted_3 (by decide) ?_
  refine J_csr (pc := 5) (N := mX10_isWithin) dX10_tempted_5 ml_X10_177 cf_X10_isWithin cs_X10_isWithin r_X10_isWithin rfl rfl (Nat.le_of_ble_eq_true rfl) (by decide) ?_
  refine J_ifp_eq (pc := 8) (tgt := 34) dX10_tempted_8 (by decide) (fun c8 => ?_) (fun c8 => ?_)
  · refine J_iconst (pc := 34) (v := 0) dX10_tempted_34 (by decide) ?_
    exact J_cvth (pc := 35) (N := mX10_needArgument) rfl dX10_tempted_35 ml_X10_181 cf_X10_needArgument cv_X10_needArgument (th_IA hl) rfl rfl (Nat.le_of_ble_eq_true rfl) (by decide) (by decide) (by decide) (rv_of (ci := 10) rfl rfl rfl) hQ
  · refine J_iload_n (pc := 11) dX10_tempted_11 rfl ?_
    refine J_iconst (pc := 12) (v := 0) dX10_tempted_12 (by decide) ?_
    refine J_bipush (pc := 13) (v := 99) dX10_tempted_13 (by decide) ?_
    refine J_csr (pc := 15) (N := mX10_isWithin) dX10_tempted_15 ml_X10_177 cf_X10_isWithin cs_X10_isWithin r_X10_isWithin rfl rfl (Nat.le_of_ble_eq_true rfl) (by decide) ?_
    refine J_ifp_eq (pc := 18) (tgt := 34) dX10_tempted_18 (by decide) (fun c18 => ?_) (fun c18 => ?_)
    · refine J_iconst (pc := 34) (v := 0) dX10_tempted_34 (by decide) ?_
      exact J_cvth (pc := 35) (N := mX10_needArgument) rfl dX10_tempted_35 ml_X10_181 cf_X10_needArgument cv_X10_needArgument (th_IA hl) rfl rfl (Nat.le_of_ble_eq_true rfl) (by decide) (by decide) (by decide) (rv_of (ci := 10) rfl rfl rfl) hQ
    · refine J_iload_n (pc := 21) dX10_tempted_21 rfl ?_
      refine J_iconst (pc := 22) (v := 0) dX10_tempted_22 (by decide) ?_
      refine J_iconst (pc := 23) (v := 2) dX10_tempted_23 (by decide) ?_
      refine J_csr (pc := 24) (N := mX10_isWithin) dX10_tempted_24 ml_X10_177 cf_X10_isWithin cs_X10_isWithin r_X10_isWithin rfl rfl (Nat.le_of_ble_eq_true rfl) (by decide) ?_
      refine J_ifp_eq (pc := 27) (tgt := 34) dX10_tempted_27 (by decide) (fun c27 => ?_) (fun c27 => ?_)
      · refine J_iconst (pc := 34) (v := 0) dX10_tempted_34 (by decide) ?_
        exact J_cvth (pc := 35) (N := mX10_needArgument) rfl dX10_tempted_35 ml_X10_181 cf_X10_needArgument cv_X10_needArgument (th_IA hl) rfl rfl (Nat.le_of_ble_eq_true rfl) (by decide) (by decide) (by decide) (rv_of (ci := 10) rfl rfl rfl) hQ
      · exact absurd ⟨c8, c18, c27⟩ hv9
theorem e_X10_year {g : Gp} {S : Sx} (hl : (gl g).stackTraces = false)  {x y z : Int32} (hv9 : ¬ ((1 ≤ y ∧ y ≤ 96) ∧ (0 ≤ z ∧ z ≤ 3))) : TH g mX10_year 1 [.ref 0, .int x, .int y, .int z] S IA (sF S 0 15 (sf S 0 15 + 1)) := by
  refine TH_ofQ ⟨rfl, rfl⟩ (Nat.le_of_ble_eq_true rfl) (fun sz Q hQ => ?_)
  refine J_aload_n (pc := 0) dX10_year_0 rfl ?_
  refine J_iload_n (pc := 1) dX10_year_1 rfl ?_
  refine J_iconst (pc := 2) (v := 1) dX10_year_2 (by decide) ?_
  refine J_bipush (pc := 3) (v := 96) dX10_year_3 (by decide) ?_
  refine J_csr (pc := 5) (N := mX10_isWithin) dX10_year_5 ml_X10_177 cf_X10_isWithin cs_X10_isWithin r_X10_isWithin rfl rfl (Nat.le_of_ble_eq_true rfl) (by decide) ?_
  refine J_ifp_eq (pc := 8) (tgt := 24) dX10_year_8 (by decide) (fun c8 => ?_) (fun c8 => ?_)
  · refine J_iconst (pc := 24) (v := 0) dX10_year_24 (by decide) ?_
    exact J_cvth (pc := 25) (N := mX10_needArgument) rfl dX10_year_25 ml_X10_181 cf_X10_needArgument cv_X10_needArgument (th_IA hl) rfl rfl (Nat.le_of_ble_eq_true rfl) (by decide) (by decide) (by decide) (rv_of (ci := 10) rfl rfl rfl) hQ
  · refine J_iload_n (pc := 11) dX10_year_11 rfl ?_
    refine J_iconst (pc := 12) (v := 0) dX10_year_12 (by decide) ?_
    refine J_iconst (pc := 13) (v := 3) dX10_year_13 (by decide) ?_
    refine J_csr (pc := 14) (N := mX10_isWithin) dX10_year_14 ml_X10_177 cf_X10_isWithin cs_X10_isWithin r_X10_isWithin rfl rfl (Nat.le_of_ble_eq_true rfl) (by decide) ?_
    refine J_ifp_eq (pc := 17) (tgt := 24) dX10_year_17 (by decide) (fun c17 => ?_) (fun c17 => ?_)
    · refine J_iconst (pc := 24) (v := 0) dX10_year_24 (by decide) ?_
      exact J_cvth (pc := 25) (N := mX10_needArgument) rfl dX10_year_25 ml_X10_181 cf_X10_needArgument cv_X10_needArgument (th_IA hl) rfl rfl (Nat.le_of_ble_eq_true rfl) (by decide) (by decide) (by decide) (rv_of (ci := 10) rfl rfl rfl) hQ
    · exact absurd ⟨c8, c17⟩ hv9
theorem e_X10_span {g : Gp} {S : Sx} (hl : (gl g).stackTraces = false) {a b m : Nat} {d : HD} {wv : Nat → Nat × Nat} {f : Row} (hX : CX S 3 16 17 a b d m wv f) {x y z u v : Int32} (hv9 : ¬ ((1 ≤ y ∧ y ≤ 20) ∧ (1 ≤ z ∧ z ≤ 96) ∧ (0 ≤ u ∧ u ≤ 2) ∧ (0 ≤ v ∧ v ≤ nI (dNp d) - 1))) : TH g mX10_span 1 [.ref 0, .int x, .int y, .int z, .int u, .int v] S IA (sF S 0 15 (sf S 0 15 + 1)) := by
  refine TH_ofQ ⟨rfl, rfl⟩ (Nat.le_of_ble_eq_true rfl) (fun sz Q hQ => ?_)
  obtain ⟨hCL, hHL, hLL, hp2, hp3, hHC, hv, hW, hLC, hRC⟩ := id hX
  have n1 : dNs d ≤ 8 := hv.1
  have n2 : dNr d ≤ 10 := hv.2.1
  have n3 : dNp d ≤ 8 := hv.2.2.1
  refine J_aload_n (pc := 0) dX10_span_0 rfl ?_
  refine J_iload_n (pc := 1) dX10_span_1 rfl ?_
  refine J_iconst (pc := 2) (v := 1) dX10_span_2 (by decide) ?_
  refine J_bipush (pc := 3) (v := 20) dX10_span_3 (by decide) ?_
  refine J_csr (pc := 5) (N := mX10_isWithin) dX10_span_5 ml_X10_177 cf_X10_isWithin cs_X10_isWithin r_X10_isWithin rfl rfl (Nat.le_of_ble_eq_true rfl) (by decide) ?_
  refine J_ifp_eq (pc := 8) (tgt := 50) dX10_span_8 (by decide) (fun c8 => ?_) (fun c8 => ?_)
  · refine J_iconst (pc := 50) (v := 0) dX10_span_50 (by decide) ?_
    exact J_cvth (pc := 51) (N := mX10_needArgument) rfl dX10_span_51 ml_X10_181 cf_X10_needArgument cv_X10_needArgument (th_IA hl) rfl rfl (Nat.le_of_ble_eq_true rfl) (by decide) (by decide) (by decide) (rv_of (ci := 10) rfl rfl rfl) hQ
  · refine J_iload_n (pc := 11) dX10_span_11 rfl ?_
    refine J_iconst (pc := 12) (v := 1) dX10_span_12 (by decide) ?_
    refine J_bipush (pc := 13) (v := 96) dX10_span_13 (by decide) ?_
    refine J_csr (pc := 15) (N := mX10_isWithin) dX10_span_15 ml_X10_177 cf_X10_isWithin cs_X10_isWithin r_X10_isWithin rfl rfl (Nat.le_of_ble_eq_true rfl) (by decide) ?_
    refine J_ifp_eq (pc := 18) (tgt := 50) dX10_span_18 (by decide) (fun c18 => ?_) (fun c18 => ?_)
    · refine J_iconst (pc := 50) (v := 0) dX10_span_50 (by decide) ?_
      exact J_cvth (pc := 51) (N := mX10_needArgument) rfl dX10_span_51 ml_X10_181 cf_X10_needArgument cv_X10_needArgument (th_IA hl) rfl rfl (Nat.le_of_ble_eq_true rfl) (by decide) (by decide) (by decide) (rv_of (ci := 10) rfl rfl rfl) hQ
    · refine J_iload (pc := 21) dX10_span_21 rfl ?_
      refine J_iconst (pc := 23) (v := 0) dX10_span_23 (by decide) ?_
      refine J_iconst (pc := 24) (v := 2) dX10_span_24 (by decide) ?_
      refine J_csr (pc := 25) (N := mX10_isWithin) dX10_span_25 ml_X10_177 cf_X10_isWithin cs_X10_isWithin r_X10_isWithin rfl rfl (Nat.le_of_ble_eq_true rfl) (by decide) ?_
      refine J_ifp_eq (pc := 28) (tgt := 50) dX10_span_28 (by decide) (fun c28 => ?_) (fun c28 => ?_)
      · refine J_iconst (pc := 50) (v := 0) dX10_span_50 (by decide) ?_
        exact J_cvth (pc := 51) (N := mX10_needArgument) rfl dX10_span_51 ml_X10_181 cf_X10_needArgument cv_X10_needArgument (th_IA hl) rfl rfl (Nat.le_of_ble_eq_true rfl) (by decide) (by decide) (by decide) (rv_of (ci := 10) rfl rfl rfl) hQ
      · refine J_aload_n (pc := 31) dX10_span_31 rfl ?_
        refine J_getr (pc := 32) dX10_span_32 kc10 fl_X10_27 rfl ?_
        refine J_getpN (pc := 35) dX10_span_35 kc0 fl_X10_54 (by first | exact cvn_p2 (by assumption) | rfl) ?_
        refine J_tr hp2 ?_
        refine J_iload (pc := 38) dX10_span_38 rfl ?_
        refine J_cnr (pc := 40) (N := mX1_hasPilgrim) dX10_span_40 ml_X10_236 cf_X1_hasPilgrim cv_X1_hasPilgrim (r_X1_hasPilgrim hHL hHC hv) rfl rfl (Nat.le_of_ble_eq_true rfl) (by decide) (rv_of (ci := 1) (by first | exact hou_n (by assumption) | rfl) rfl rfl) ?_
        refine J_ifp_eq (pc := 43) (tgt := 50) dX10_span_43 (by decide) (fun c43 => ?_) (fun c43 => ?_)
        · refine J_iconst (pc := 50) (v := 0) dX10_span_50 (by decide) ?_
          exact J_cvth (pc := 51) (N := mX10_needArgument) rfl dX10_span_51 ml_X10_181 cf_X10_needArgument cv_X10_needArgument (th_IA hl) rfl rfl (Nat.le_of_ble_eq_true rfl) (by decide) (by decide) (by decide) (rv_of (ci := 10) rfl rfl rfl) hQ
        · exact absurd ⟨c8, c18, c28, c43⟩ hv9
theorem e_X10_would {g : Gp} {S : Sx} (hl : (gl g).stackTraces = false)  {a1 a2 a3 a4 a5 a6 a7 a8 : Int32} (hv9 : ¬ wvd a1 a2 a3 a4 a5 a6 a7 a8) : TH g mX10_would 1 [.ref 0, .int a1, .int a2, .int a3, .int a4, .int a5, .int a6, .int a7, .int a8] S IA (sF S 0 15 (sf S 0 15 + 1)) := by
  refine TH_ofQ ⟨rfl, rfl⟩ (Nat.le_of_ble_eq_true rfl) (fun sz Q hQ => ?_)
  refine J_aload_n (pc := 0) dX10_would_0 rfl ?_
  refine J_iload_n (pc := 1) dX10_would_1 rfl ?_
  refine J_iconst (pc := 2) (v := 1) dX10_would_2 (by decide) ?_
  refine J_bipush (pc := 3) (v := 30) dX10_would_3 (by decide) ?_
  refine J_csr (pc := 5) (N := mX10_isWithin) dX10_would_5 ml_X10_177 cf_X10_isWithin cs_X10_isWithin r_X10_isWithin rfl rfl (Nat.le_of_ble_eq_true rfl) (by decide) ?_
  refine J_ifp_eq (pc := 8) (tgt := 92) dX10_would_8 (by decide) (fun c8 => ?_) (fun c8 => ?_)
  · refine J_iconst (pc := 92) (v := 0) dX10_would_92 (by decide) ?_
    exact J_cvth (pc := 93) (N := mX10_needArgument) rfl dX10_would_93 ml_X10_181 cf_X10_needArgument cv_X10_needArgument (th_IA hl) rfl rfl (Nat.le_of_ble_eq_true rfl) (by decide) (by decide) (by decide) (rv_of (ci := 10) rfl rfl rfl) hQ
  · refine J_iload_n (pc := 11) dX10_would_11 rfl ?_
    refine J_iconst (pc := 12) (v := 0) dX10_would_12 (by decide) ?_
    refine J_sipush (pc := 13) (v := 999) dX10_would_13 (by decide) ?_
    refine J_csr (pc := 16) (N := mX10_isWithin) dX10_would_16 ml_X10_177 cf_X10_isWithin cs_X10_isWithin r_X10_isWithin rfl rfl (Nat.le_of_ble_eq_true rfl) (by decide) ?_
    refine J_ifp_eq (pc := 19) (tgt := 92) dX10_would_19 (by decide) (fun c19 => ?_) (fun c19 => ?_)
    · refine J_iconst (pc := 92) (v := 0) dX10_would_92 (by decide) ?_
      exact J_cvth (pc := 93) (N := mX10_needArgument) rfl dX10_would_93 ml_X10_181 cf_X10_needArgument cv_X10_needArgument (th_IA hl) rfl rfl (Nat.le_of_ble_eq_true rfl) (by decide) (by decide) (by decide) (rv_of (ci := 10) rfl rfl rfl) hQ
    · refine J_iload_n (pc := 22) dX10_would_22 rfl ?_
      refine J_iconst (pc := 23) (v := 0) dX10_would_23 (by decide) ?_
      refine J_sipush (pc := 24) (v := 999) dX10_would_24 (by decide) ?_
      refine J_csr (pc := 27) (N := mX10_isWithin) dX10_would_27 ml_X10_177 cf_X10_isWithin cs_X10_isWithin r_X10_isWithin rfl rfl (Nat.le_of_ble_eq_true rfl) (by decide) ?_
      refine J_ifp_eq (pc := 30) (tgt := 92) dX10_would_30 (by decide) (fun c30 => ?_) (fun c30 => ?_)
      · refine J_iconst (pc := 92) (v := 0) dX10_would_92 (by decide) ?_
        exact J_cvth (pc := 93) (N := mX10_needArgument) rfl dX10_would_93 ml_X10_181 cf_X10_needArgument cv_X10_needArgument (th_IA hl) rfl rfl (Nat.le_of_ble_eq_true rfl) (by decide) (by decide) (by decide) (rv_of (ci := 10) rfl rfl rfl) hQ
      · refine J_iload (pc := 33) dX10_would_33 rfl ?_
        refine J_iconst (pc := 35) (v := 0) dX10_would_35 (by decide) ?_
        refine J_bipush (pc := 36) (v := 15) dX10_would_36 (by decide) ?_
        refine J_csr (pc := 38) (N := mX10_isWithin) dX10_would_38 ml_X10_177 cf_X10_isWithin cs_X10_isWithin r_X10_isWithin rfl rfl (Nat.le_of_ble_eq_true rfl) (by decide) ?_
        refine J_ifp_eq (pc := 41) (tgt := 92) dX10_would_41 (by decide) (fun c41 => ?_) (fun c41 => ?_)
        · refine J_iconst (pc := 92) (v := 0) dX10_would_92 (by decide) ?_
          exact J_cvth (pc := 93) (N := mX10_needArgument) rfl dX10_would_93 ml_X10_181 cf_X10_needArgument cv_X10_needArgument (th_IA hl) rfl rfl (Nat.le_of_ble_eq_true rfl) (by decide) (by decide) (by decide) (rv_of (ci := 10) rfl rfl rfl) hQ
        · refine J_iload (pc := 44) dX10_would_44 rfl ?_
          refine J_iconst (pc := 46) (v := 0) dX10_would_46 (by decide) ?_
          refine J_iconst (pc := 47) (v := 5) dX10_would_47 (by decide) ?_
          refine J_csr (pc := 48) (N := mX10_isWithin) dX10_would_48 ml_X10_177 cf_X10_isWithin cs_X10_isWithin r_X10_isWithin rfl rfl (Nat.le_of_ble_eq_true rfl) (by decide) ?_
          refine J_ifp_eq (pc := 51) (tgt := 92) dX10_would_51 (by decide) (fun c51 => ?_) (fun c51 => ?_)
          · refine J_iconst (pc := 92) (v := 0) dX10_would_92 (by decide) ?_
            exact J_cvth (pc := 93) (N := mX10_needArgument) rfl dX10_would_93 ml_X10_181 cf_X10_needArgument cv_X10_needArgument (th_IA hl) rfl rfl (Nat.le_of_ble_eq_true rfl) (by decide) (by decide) (by decide) (rv_of (ci := 10) rfl rfl rfl) hQ
          · refine J_iload (pc := 54) dX10_would_54 rfl ?_
            refine J_iconst (pc := 56) (v := 0) dX10_would_56 (by decide) ?_
            refine J_bipush (pc := 57) (v := 9) dX10_would_57 (by decide) ?_
            refine J_csr (pc := 59) (N := mX10_isWithin) dX10_would_59 ml_X10_177 cf_X10_isWithin cs_X10_isWithin r_X10_isWithin rfl rfl (Nat.le_of_ble_eq_true rfl) (by decide) ?_
            refine J_ifp_eq (pc := 62) (tgt := 92) dX10_would_62 (by decide) (fun c62 => ?_) (fun c62 => ?_)
            · refine J_iconst (pc := 92) (v := 0) dX10_would_92 (by decide) ?_
              exact J_cvth (pc := 93) (N := mX10_needArgument) rfl dX10_would_93 ml_X10_181 cf_X10_needArgument cv_X10_needArgument (th_IA hl) rfl rfl (Nat.le_of_ble_eq_true rfl) (by decide) (by decide) (by decide) (rv_of (ci := 10) rfl rfl rfl) hQ
            · refine J_iload (pc := 65) dX10_would_65 rfl ?_
              refine J_iconst (pc := 67) (v := 0) dX10_would_67 (by decide) ?_
              refine J_bipush (pc := 68) (v := 7) dX10_would_68 (by decide) ?_
              refine J_csr (pc := 70) (N := mX10_isWithin) dX10_would_70 ml_X10_177 cf_X10_isWithin cs_X10_isWithin r_X10_isWithin rfl rfl (Nat.le_of_ble_eq_true rfl) (by decide) ?_
              refine J_ifp_eq (pc := 73) (tgt := 92) dX10_would_73 (by decide) (fun c73 => ?_) (fun c73 => ?_)
              · refine J_iconst (pc := 92) (v := 0) dX10_would_92 (by decide) ?_
                exact J_cvth (pc := 93) (N := mX10_needArgument) rfl dX10_would_93 ml_X10_181 cf_X10_needArgument cv_X10_needArgument (th_IA hl) rfl rfl (Nat.le_of_ble_eq_true rfl) (by decide) (by decide) (by decide) (rv_of (ci := 10) rfl rfl rfl) hQ
              · refine J_iload (pc := 76) dX10_would_76 rfl ?_
                refine J_iconst (pc := 78) (v := 0) dX10_would_78 (by decide) ?_
                refine J_sipush (pc := 79) (v := 500) dX10_would_79 (by decide) ?_
                refine J_csr (pc := 82) (N := mX10_isWithin) dX10_would_82 ml_X10_177 cf_X10_isWithin cs_X10_isWithin r_X10_isWithin rfl rfl (Nat.le_of_ble_eq_true rfl) (by decide) ?_
                refine J_ifp_eq (pc := 85) (tgt := 92) dX10_would_85 (by decide) (fun c85 => ?_) (fun c85 => ?_)
                · refine J_iconst (pc := 92) (v := 0) dX10_would_92 (by decide) ?_
                  exact J_cvth (pc := 93) (N := mX10_needArgument) rfl dX10_would_93 ml_X10_181 cf_X10_needArgument cv_X10_needArgument (th_IA hl) rfl rfl (Nat.le_of_ble_eq_true rfl) (by decide) (by decide) (by decide) (rv_of (ci := 10) rfl rfl rfl) hQ
                · exact absurd ⟨c8, c19, c30, c41, c51, c62, c73, c85⟩ hv9
