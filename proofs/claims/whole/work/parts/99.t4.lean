/-! ===== the law's own methods ===== -/
set_option maxRecDepth 100000 in
theorem cl_L31 : InT (.classLink RL 31 NS) := ⟨List.mem_of_getElem? (i := 1095) rfl, rfl⟩
set_option maxRecDepth 100000 in
theorem cl_L13 : InT (.classLink RL 13 IA) := ⟨List.mem_of_getElem? (i := 665) rfl, rfl⟩
abbrev mL_house : Mt := (yL_house, cL_house, 4, some .int)
abbrev hL_house : List (Nat × Nat × Nat × Nat) := [(0, 9, 12, 13)]
set_option maxRecDepth 100000 in
theorem cfw_L_house : CFW mL_house hL_house 3 := ⟨⟨List.mem_of_getElem? (i := 664) rfl, rfl⟩, ⟨List.mem_of_getElem? (i := 146) rfl, rfl⟩, ⟨by decide, by decide⟩, by decide, by decide⟩
set_option maxRecDepth 100000 in
theorem cs_L_house : InT (.static yL_house) := ⟨List.mem_of_getElem? (i := 663) rfl, rfl⟩
theorem wg_house {g : Gp} {S : Sx} {d' : Nat} {x1 : Int32} {P : Int32 → Sx → Prop} (hd : d' + 1 ≤ 40) (h : RI g mX10_house d' [.ref 0, .int x1] S P) : WR g mL_house hL_house [.ref 0, .int x1, .ref 562] S (fun k Y => k = 0 ∧ ∃ x X, P x X ∧ Y = sL X 0 x.toInt64) := by
  refine WR_of ⟨rfl, rfl⟩ (Nat.le_of_ble_eq_true rfl) (fun sz Q hQ => ?_)
  refine J_aload_n (pc := 0) dL_house_0 rfl ?_
  refine J_iconst (pc := 1) (v := 0) dL_house_1 (by decide) ?_
  refine J_aload_n (pc := 2) dL_house_2 rfl ?_
  refine J_iload_n (pc := 3) dL_house_3 rfl ?_
  refine J_cvI (pc := 4) (N := mX10_house) dL_house_4 ml_L_7 cf_X10_house cv_X10_house h rfl rfl (Nat.le_of_ble_eq_true rfl) hd (rv_of (ci := 10) rfl rfl rfl) (fun x X hP => ?_)
  refine J_i2l (pc := 7) dL_house_7 ?_
  refine J_lsS (pc := 8) dL_house_8 ?_
  refine J_goto (pc := 9) (tgt := 15) dL_house_9 (by decide) ?_
  refine J_iconst (pc := 15) (v := 0) dL_house_15 (by decide) ?_
  exact J_iret (pc := 16) rfl rfl rfl dL_house_16 (hQ _ _ _ ⟨rfl, x, X, hP, rfl⟩ (Nat.le_refl _))
theorem we_house_IA {g : Gp} {S S' : Sx} {d' : Nat} {x1 : Int32} (hd : d' + 1 ≤ 40) (h : TH g mX10_house d' [.ref 0, .int x1] S IA S') : WR g mL_house hL_house [.ref 0, .int x1, .ref 562] S (fun k Y => k = 1 ∧ Y = S') := by
  refine WR_of ⟨rfl, rfl⟩ (Nat.le_of_ble_eq_true rfl) (fun sz Q hQ => ?_)
  refine J_aload_n (pc := 0) dL_house_0 rfl ?_
  refine J_iconst (pc := 1) (v := 0) dL_house_1 (by decide) ?_
  refine J_aload_n (pc := 2) dL_house_2 rfl ?_
  refine J_iload_n (pc := 3) dL_house_3 rfl ?_
  refine J_cvC (pc := 4) (N := mX10_house) (nm := IA) (k := 3) (len := 1) rfl dL_house_4 ml_L_7 cf_X10_house cv_X10_house h rfl rfl (Nat.le_of_ble_eq_true rfl) hd (by decide) (by decide) (rv_of (ci := 10) rfl rfl rfl) [] ⟨0, 9, 12, 13⟩ [] rfl (fun z hz => nomatch hz) (by decide) (by decide) cl_L13 ⟨rfl, ib_IA⟩ (Or.inl ⟨3, rfl, rfl, dL_house_12⟩) (by decide) (fun sz' hsz => ?_)
  refine J_iconst (pc := 13) (v := 1) dL_house_13 (by decide) ?_
  exact J_iret (pc := 14) rfl rfl rfl dL_house_14 (hQ _ _ _ ⟨rfl, rfl⟩ hsz)
abbrev mL_law : Mt := (yL_law, cL_law, 4, some .int)
abbrev hL_law : List (Nat × Nat × Nat × Nat) := [(0, 9, 12, 13)]
set_option maxRecDepth 100000 in
theorem cfw_L_law : CFW mL_law hL_law 3 := ⟨⟨List.mem_of_getElem? (i := 882) rfl, rfl⟩, ⟨List.mem_of_getElem? (i := 146) rfl, rfl⟩, ⟨by decide, by decide⟩, by decide, by decide⟩
set_option maxRecDepth 100000 in
theorem cs_L_law : InT (.static yL_law) := ⟨List.mem_of_getElem? (i := 881) rfl, rfl⟩
theorem wg_law {g : Gp} {S : Sx} {d' : Nat} {x1 : Int32} {P : Int32 → Sx → Prop} (hd : d' + 1 ≤ 40) (h : RI g mX10_law d' [.ref 0, .int x1] S P) : WR g mL_law hL_law [.ref 0, .int x1, .ref 562] S (fun k Y => k = 0 ∧ ∃ x X, P x X ∧ Y = sL X 0 x.toInt64) := by
  refine WR_of ⟨rfl, rfl⟩ (Nat.le_of_ble_eq_true rfl) (fun sz Q hQ => ?_)
  refine J_aload_n (pc := 0) dL_law_0 rfl ?_
  refine J_iconst (pc := 1) (v := 0) dL_law_1 (by decide) ?_
  refine J_aload_n (pc := 2) dL_law_2 rfl ?_
  refine J_iload_n (pc := 3) dL_law_3 rfl ?_
  refine J_cvI (pc := 4) (N := mX10_law) dL_law_4 ml_L_15 cf_X10_law cv_X10_law h rfl rfl (Nat.le_of_ble_eq_true rfl) hd (rv_of (ci := 10) rfl rfl rfl) (fun x X hP => ?_)
  refine J_i2l (pc := 7) dL_law_7 ?_
  refine J_lsS (pc := 8) dL_law_8 ?_
  refine J_goto (pc := 9) (tgt := 15) dL_law_9 (by decide) ?_
  refine J_iconst (pc := 15) (v := 0) dL_law_15 (by decide) ?_
  exact J_iret (pc := 16) rfl rfl rfl dL_law_16 (hQ _ _ _ ⟨rfl, x, X, hP, rfl⟩ (Nat.le_refl _))
theorem we_law_IA {g : Gp} {S S' : Sx} {d' : Nat} {x1 : Int32} (hd : d' + 1 ≤ 40) (h : TH g mX10_law d' [.ref 0, .int x1] S IA S') : WR g mL_law hL_law [.ref 0, .int x1, .ref 562] S (fun k Y => k = 1 ∧ Y = S') := by
  refine WR_of ⟨rfl, rfl⟩ (Nat.le_of_ble_eq_true rfl) (fun sz Q hQ => ?_)
  refine J_aload_n (pc := 0) dL_law_0 rfl ?_
  refine J_iconst (pc := 1) (v := 0) dL_law_1 (by decide) ?_
  refine J_aload_n (pc := 2) dL_law_2 rfl ?_
  refine J_iload_n (pc := 3) dL_law_3 rfl ?_
  refine J_cvC (pc := 4) (N := mX10_law) (nm := IA) (k := 3) (len := 1) rfl dL_law_4 ml_L_15 cf_X10_law cv_X10_law h rfl rfl (Nat.le_of_ble_eq_true rfl) hd (by decide) (by decide) (rv_of (ci := 10) rfl rfl rfl) [] ⟨0, 9, 12, 13⟩ [] rfl (fun z hz => nomatch hz) (by decide) (by decide) cl_L13 ⟨rfl, ib_IA⟩ (Or.inl ⟨3, rfl, rfl, dL_law_12⟩) (by decide) (fun sz' hsz => ?_)
  refine J_iconst (pc := 13) (v := 1) dL_law_13 (by decide) ?_
  exact J_iret (pc := 14) rfl rfl rfl dL_law_14 (hQ _ _ _ ⟨rfl, rfl⟩ hsz)
abbrev mL_work : Mt := (yL_work, cL_work, 4, some .int)
abbrev hL_work : List (Nat × Nat × Nat × Nat) := [(0, 9, 12, 13)]
set_option maxRecDepth 100000 in
theorem cfw_L_work : CFW mL_work hL_work 3 := ⟨⟨List.mem_of_getElem? (i := 983) rfl, rfl⟩, ⟨List.mem_of_getElem? (i := 146) rfl, rfl⟩, ⟨by decide, by decide⟩, by decide, by decide⟩
set_option maxRecDepth 100000 in
theorem cs_L_work : InT (.static yL_work) := ⟨List.mem_of_getElem? (i := 982) rfl, rfl⟩
theorem wg_work {g : Gp} {S : Sx} {d' : Nat} {x1 : Int32} {P : Int32 → Sx → Prop} (hd : d' + 1 ≤ 40) (h : RI g mX10_work d' [.ref 0, .int x1] S P) : WR g mL_work hL_work [.ref 0, .int x1, .ref 562] S (fun k Y => k = 0 ∧ ∃ x X, P x X ∧ Y = sL X 0 x.toInt64) := by
  refine WR_of ⟨rfl, rfl⟩ (Nat.le_of_ble_eq_true rfl) (fun sz Q hQ => ?_)
  refine J_aload_n (pc := 0) dL_work_0 rfl ?_
  refine J_iconst (pc := 1) (v := 0) dL_work_1 (by decide) ?_
  refine J_aload_n (pc := 2) dL_work_2 rfl ?_
  refine J_iload_n (pc := 3) dL_work_3 rfl ?_
  refine J_cvI (pc := 4) (N := mX10_work) dL_work_4 ml_L_18 cf_X10_work cv_X10_work h rfl rfl (Nat.le_of_ble_eq_true rfl) hd (rv_of (ci := 10) rfl rfl rfl) (fun x X hP => ?_)
  refine J_i2l (pc := 7) dL_work_7 ?_
  refine J_lsS (pc := 8) dL_work_8 ?_
  refine J_goto (pc := 9) (tgt := 15) dL_work_9 (by decide) ?_
  refine J_iconst (pc := 15) (v := 0) dL_work_15 (by decide) ?_
  exact J_iret (pc := 16) rfl rfl rfl dL_work_16 (hQ _ _ _ ⟨rfl, x, X, hP, rfl⟩ (Nat.le_refl _))
theorem we_work_IA {g : Gp} {S S' : Sx} {d' : Nat} {x1 : Int32} (hd : d' + 1 ≤ 40) (h : TH g mX10_work d' [.ref 0, .int x1] S IA S') : WR g mL_work hL_work [.ref 0, .int x1, .ref 562] S (fun k Y => k = 1 ∧ Y = S') := by
  refine WR_of ⟨rfl, rfl⟩ (Nat.le_of_ble_eq_true rfl) (fun sz Q hQ => ?_)
  refine J_aload_n (pc := 0) dL_work_0 rfl ?_
  refine J_iconst (pc := 1) (v := 0) dL_work_1 (by decide) ?_
  refine J_aload_n (pc := 2) dL_work_2 rfl ?_
  refine J_iload_n (pc := 3) dL_work_3 rfl ?_
  refine J_cvC (pc := 4) (N := mX10_work) (nm := IA) (k := 3) (len := 1) rfl dL_work_4 ml_L_18 cf_X10_work cv_X10_work h rfl rfl (Nat.le_of_ble_eq_true rfl) hd (by decide) (by decide) (rv_of (ci := 10) rfl rfl rfl) [] ⟨0, 9, 12, 13⟩ [] rfl (fun z hz => nomatch hz) (by decide) (by decide) cl_L13 ⟨rfl, ib_IA⟩ (Or.inl ⟨3, rfl, rfl, dL_work_12⟩) (by decide) (fun sz' hsz => ?_)
  refine J_iconst (pc := 13) (v := 1) dL_work_13 (by decide) ?_
  exact J_iret (pc := 14) rfl rfl rfl dL_work_14 (hQ _ _ _ ⟨rfl, rfl⟩ hsz)
abbrev mL_seen : Mt := (yL_seen, cL_seen, 4, some .int)
abbrev hL_seen : List (Nat × Nat × Nat × Nat) := [(0, 9, 12, 13)]
set_option maxRecDepth 100000 in
theorem cfw_L_seen : CFW mL_seen hL_seen 3 := ⟨⟨List.mem_of_getElem? (i := 1051) rfl, rfl⟩, ⟨List.mem_of_getElem? (i := 146) rfl, rfl⟩, ⟨by decide, by decide⟩, by decide, by decide⟩
set_option maxRecDepth 100000 in
theorem cs_L_seen : InT (.static yL_seen) := ⟨List.mem_of_getElem? (i := 1050) rfl, rfl⟩
theorem wg_seen {g : Gp} {S : Sx} {d' : Nat} {x1 : Int32} {P : Int32 → Sx → Prop} (hd : d' + 1 ≤ 40) (h : RI g mX10_seen d' [.ref 0, .int x1] S P) : WR g mL_seen hL_seen [.ref 0, .int x1, .ref 562] S (fun k Y => k = 0 ∧ ∃ x X, P x X ∧ Y = sL X 0 x.toInt64) := by
  refine WR_of ⟨rfl, rfl⟩ (Nat.le_of_ble_eq_true rfl) (fun sz Q hQ => ?_)
  refine J_aload_n (pc := 0) dL_seen_0 rfl ?_
  refine J_iconst (pc := 1) (v := 0) dL_seen_1 (by decide) ?_
  refine J_aload_n (pc := 2) dL_seen_2 rfl ?_
  refine J_iload_n (pc := 3) dL_seen_3 rfl ?_
  refine J_cvI (pc := 4) (N := mX10_seen) dL_seen_4 ml_L_21 cf_X10_seen cv_X10_seen h rfl rfl (Nat.le_of_ble_eq_true rfl) hd (rv_of (ci := 10) rfl rfl rfl) (fun x X hP => ?_)
  refine J_i2l (pc := 7) dL_seen_7 ?_
  refine J_lsS (pc := 8) dL_seen_8 ?_
  refine J_goto (pc := 9) (tgt := 15) dL_seen_9 (by decide) ?_
  refine J_iconst (pc := 15) (v := 0) dL_seen_15 (by decide) ?_
  exact J_iret (pc := 16) rfl rfl rfl dL_seen_16 (hQ _ _ _ ⟨rfl, x, X, hP, rfl⟩ (Nat.le_refl _))
theorem we_seen_IA {g : Gp} {S S' : Sx} {d' : Nat} {x1 : Int32} (hd : d' + 1 ≤ 40) (h : TH g mX10_seen d' [.ref 0, .int x1] S IA S') : WR g mL_seen hL_seen [.ref 0, .int x1, .ref 562] S (fun k Y => k = 1 ∧ Y = S') := by
  refine WR_of ⟨rfl, rfl⟩ (Nat.le_of_ble_eq_true rfl) (fun sz Q hQ => ?_)
  refine J_aload_n (pc := 0) dL_seen_0 rfl ?_
  refine J_iconst (pc := 1) (v := 0) dL_seen_1 (by decide) ?_
  refine J_aload_n (pc := 2) dL_seen_2 rfl ?_
  refine J_iload_n (pc := 3) dL_seen_3 rfl ?_
  refine J_cvC (pc := 4) (N := mX10_seen) (nm := IA) (k := 3) (len := 1) rfl dL_seen_4 ml_L_21 cf_X10_seen cv_X10_seen h rfl rfl (Nat.le_of_ble_eq_true rfl) hd (by decide) (by decide) (rv_of (ci := 10) rfl rfl rfl) [] ⟨0, 9, 12, 13⟩ [] rfl (fun z hz => nomatch hz) (by decide) (by decide) cl_L13 ⟨rfl, ib_IA⟩ (Or.inl ⟨3, rfl, rfl, dL_seen_12⟩) (by decide) (fun sz' hsz => ?_)
  refine J_iconst (pc := 13) (v := 1) dL_seen_13 (by decide) ?_
  exact J_iret (pc := 14) rfl rfl rfl dL_seen_14 (hQ _ _ _ ⟨rfl, rfl⟩ hsz)
abbrev mL_told : Mt := (yL_told, cL_told, 4, some .int)
abbrev hL_told : List (Nat × Nat × Nat × Nat) := [(0, 9, 12, 13)]
set_option maxRecDepth 100000 in
theorem cfw_L_told : CFW mL_told hL_told 3 := ⟨⟨List.mem_of_getElem? (i := 1075) rfl, rfl⟩, ⟨List.mem_of_getElem? (i := 146) rfl, rfl⟩, ⟨by decide, by decide⟩, by decide, by decide⟩
set_option maxRecDepth 100000 in
theorem cs_L_told : InT (.static yL_told) := ⟨List.mem_of_getElem? (i := 1074) rfl, rfl⟩
theorem wg_told {g : Gp} {S : Sx} {d' : Nat} {x1 : Int32} {P : Int32 → Sx → Prop} (hd : d' + 1 ≤ 40) (h : RI g mX10_told d' [.ref 0, .int x1] S P) : WR g mL_told hL_told [.ref 0, .int x1, .ref 562] S (fun k Y => k = 0 ∧ ∃ x X, P x X ∧ Y = sL X 0 x.toInt64) := by
  refine WR_of ⟨rfl, rfl⟩ (Nat.le_of_ble_eq_true rfl) (fun sz Q hQ => ?_)
  refine J_aload_n (pc := 0) dL_told_0 rfl ?_
  refine J_iconst (pc := 1) (v := 0) dL_told_1 (by decide) ?_
  refine J_aload_n (pc := 2) dL_told_2 rfl ?_
  refine J_iload_n (pc := 3) dL_told_3 rfl ?_
  refine J_cvI (pc := 4) (N := mX10_told) dL_told_4 ml_L_24 cf_X10_told cv_X10_told h rfl rfl (Nat.le_of_ble_eq_true rfl) hd (rv_of (ci := 10) rfl rfl rfl) (fun x X hP => ?_)
  refine J_i2l (pc := 7) dL_told_7 ?_
  refine J_lsS (pc := 8) dL_told_8 ?_
  refine J_goto (pc := 9) (tgt := 15) dL_told_9 (by decide) ?_
  refine J_iconst (pc := 15) (v := 0) dL_told_15 (by decide) ?_
  exact J_iret (pc := 16) rfl rfl rfl dL_told_16 (hQ _ _ _ ⟨rfl, x, X, hP, rfl⟩ (Nat.le_refl _))
theorem we_told_IA {g : Gp} {S S' : Sx} {d' : Nat} {x1 : Int32} (hd : d' + 1 ≤ 40) (h : TH g mX10_told d' [.ref 0, .int x1] S IA S') : WR g mL_told hL_told [.ref 0, .int x1, .ref 562] S (fun k Y => k = 1 ∧ Y = S') := by
  refine WR_of ⟨rfl, rfl⟩ (Nat.le_of_ble_eq_true rfl) (fun sz Q hQ => ?_)
  refine J_aload_n (pc := 0) dL_told_0 rfl ?_
  refine J_iconst (pc := 1) (v := 0) dL_told_1 (by decide) ?_
  refine J_aload_n (pc := 2) dL_told_2 rfl ?_
  refine J_iload_n (pc := 3) dL_told_3 rfl ?_
  refine J_cvC (pc := 4) (N := mX10_told) (nm := IA) (k := 3) (len := 1) rfl dL_told_4 ml_L_24 cf_X10_told cv_X10_told h rfl rfl (Nat.le_of_ble_eq_true rfl) hd (by decide) (by decide) (rv_of (ci := 10) rfl rfl rfl) [] ⟨0, 9, 12, 13⟩ [] rfl (fun z hz => nomatch hz) (by decide) (by decide) cl_L13 ⟨rfl, ib_IA⟩ (Or.inl ⟨3, rfl, rfl, dL_told_12⟩) (by decide) (fun sz' hsz => ?_)
  refine J_iconst (pc := 13) (v := 1) dL_told_13 (by decide) ?_
  exact J_iret (pc := 14) rfl rfl rfl dL_told_14 (hQ _ _ _ ⟨rfl, rfl⟩ hsz)
abbrev mL_sister : Mt := (yL_sister, cL_sister, 5, some .int)
abbrev hL_sister : List (Nat × Nat × Nat × Nat) := [(0, 10, 13, 31), (0, 10, 17, 13)]
set_option maxRecDepth 100000 in
theorem cfw_L_sister : CFW mL_sister hL_sister 4 := ⟨⟨List.mem_of_getElem? (i := 1094) rfl, rfl⟩, ⟨List.mem_of_getElem? (i := 146) rfl, rfl⟩, ⟨by decide, by decide⟩, by decide, by decide⟩
set_option maxRecDepth 100000 in
theorem cs_L_sister : InT (.static yL_sister) := ⟨List.mem_of_getElem? (i := 1093) rfl, rfl⟩
theorem wg_sister {g : Gp} {S : Sx} {d' : Nat} {x1 x2 : Int32} {P : Int32 → Sx → Prop} (hd : d' + 1 ≤ 40) (h : RI g mX10_sister d' [.ref 0, .int x1, .int x2] S P) : WR g mL_sister hL_sister [.ref 0, .int x1, .int x2, .ref 562] S (fun k Y => k = 0 ∧ ∃ x X, P x X ∧ Y = sL X 0 x.toInt64) := by
  refine WR_of ⟨rfl, rfl⟩ (Nat.le_of_ble_eq_true rfl) (fun sz Q hQ => ?_)
  refine J_aload_n (pc := 0) dL_sister_0 rfl ?_
  refine J_iconst (pc := 1) (v := 0) dL_sister_1 (by decide) ?_
  refine J_aload_n (pc := 2) dL_sister_2 rfl ?_
  refine J_iload_n (pc := 3) dL_sister_3 rfl ?_
  refine J_iload_n (pc := 4) dL_sister_4 rfl ?_
  refine J_cvI (pc := 5) (N := mX10_sister) dL_sister_5 ml_L_27 cf_X10_sister cv_X10_sister h rfl rfl (Nat.le_of_ble_eq_true rfl) hd (rv_of (ci := 10) rfl rfl rfl) (fun x X hP => ?_)
  refine J_i2l (pc := 8) dL_sister_8 ?_
  refine J_lsS (pc := 9) dL_sister_9 ?_
  refine J_goto (pc := 10) (tgt := 21) dL_sister_10 (by decide) ?_
  refine J_iconst (pc := 21) (v := 0) dL_sister_21 (by decide) ?_
  exact J_iret (pc := 22) rfl rfl rfl dL_sister_22 (hQ _ _ _ ⟨rfl, x, X, hP, rfl⟩ (Nat.le_refl _))
theorem we_sister_NS {g : Gp} {S S' : Sx} {d' : Nat} {x1 x2 : Int32} (hd : d' + 1 ≤ 40) (h : TH g mX10_sister d' [.ref 0, .int x1, .int x2] S NS S') : WR g mL_sister hL_sister [.ref 0, .int x1, .int x2, .ref 562] S (fun k Y => k = 1 ∧ Y = S') := by
  refine WR_of ⟨rfl, rfl⟩ (Nat.le_of_ble_eq_true rfl) (fun sz Q hQ => ?_)
  refine J_aload_n (pc := 0) dL_sister_0 rfl ?_
  refine J_iconst (pc := 1) (v := 0) dL_sister_1 (by decide) ?_
  refine J_aload_n (pc := 2) dL_sister_2 rfl ?_
  refine J_iload_n (pc := 3) dL_sister_3 rfl ?_
  refine J_iload_n (pc := 4) dL_sister_4 rfl ?_
  refine J_cvC (pc := 5) (N := mX10_sister) (nm := NS) (k := 4) (len := 2) rfl dL_sister_5 ml_L_27 cf_X10_sister cv_X10_sister h rfl rfl (Nat.le_of_ble_eq_true rfl) hd (by decide) (by decide) (rv_of (ci := 10) rfl rfl rfl) [] ⟨0, 10, 13, 31⟩ [⟨0, 10, 17, 13⟩] rfl (fun z hz => nomatch hz) (by decide) (by decide) cl_L31 ⟨rfl, ib_NS⟩ (Or.inr ⟨rfl, dL_sister_13⟩) (by decide) (fun sz' hsz => ?_)
  refine J_iconst (pc := 15) (v := 1) dL_sister_15 (by decide) ?_
  exact J_iret (pc := 16) rfl rfl rfl dL_sister_16 (hQ _ _ _ ⟨rfl, rfl⟩ hsz)
theorem we_sister_IA {g : Gp} {S S' : Sx} {d' : Nat} {x1 x2 : Int32} (hd : d' + 1 ≤ 40) (h : TH g mX10_sister d' [.ref 0, .int x1, .int x2] S IA S') : WR g mL_sister hL_sister [.ref 0, .int x1, .int x2, .ref 562] S (fun k Y => k = 2 ∧ Y = S') := by
  refine WR_of ⟨rfl, rfl⟩ (Nat.le_of_ble_eq_true rfl) (fun sz Q hQ => ?_)
  refine J_aload_n (pc := 0) dL_sister_0 rfl ?_
  refine J_iconst (pc := 1) (v := 0) dL_sister_1 (by decide) ?_
  refine J_aload_n (pc := 2) dL_sister_2 rfl ?_
  refine J_iload_n (pc := 3) dL_sister_3 rfl ?_
  refine J_iload_n (pc := 4) dL_sister_4 rfl ?_
  refine J_cvC (pc := 5) (N := mX10_sister) (nm := IA) (k := 4) (len := 2) rfl dL_sister_5 ml_L_27 cf_X10_sister cv_X10_sister h rfl rfl (Nat.le_of_ble_eq_true rfl) hd (by decide) (by decide) (rv_of (ci := 10) rfl rfl rfl) [⟨0, 10, 13, 31⟩] ⟨0, 10, 17, 13⟩ [] rfl (fun z hz => by rw [List.mem_singleton.mp hz]; exact Or.inr ⟨by decide, NS, cl_L31, Or.inl ⟨rfl, rfl⟩⟩) (by decide) (by decide) cl_L13 ⟨rfl, ib_IA⟩ (Or.inr ⟨rfl, dL_sister_17⟩) (by decide) (fun sz' hsz => ?_)
  refine J_iconst (pc := 19) (v := 2) dL_sister_19 (by decide) ?_
  exact J_iret (pc := 20) rfl rfl rfl dL_sister_20 (hQ _ _ _ ⟨rfl, rfl⟩ hsz)
abbrev mL_relic : Mt := (yL_relic, cL_relic, 5, some .int)
abbrev hL_relic : List (Nat × Nat × Nat × Nat) := [(0, 10, 13, 31), (0, 10, 17, 13)]
set_option maxRecDepth 100000 in
theorem cfw_L_relic : CFW mL_relic hL_relic 4 := ⟨⟨List.mem_of_getElem? (i := 1124) rfl, rfl⟩, ⟨List.mem_of_getElem? (i := 146) rfl, rfl⟩, ⟨by decide, by decide⟩, by decide, by decide⟩
set_option maxRecDepth 100000 in
theorem cs_L_relic : InT (.static yL_relic) := ⟨List.mem_of_getElem? (i := 1123) rfl, rfl⟩
theorem wg_relic {g : Gp} {S : Sx} {d' : Nat} {x1 x2 : Int32} {P : Int32 → Sx → Prop} (hd : d' + 1 ≤ 40) (h : RI g mX10_relic d' [.ref 0, .int x1, .int x2] S P) : WR g mL_relic hL_relic [.ref 0, .int x1, .int x2, .ref 562] S (fun k Y => k = 0 ∧ ∃ x X, P x X ∧ Y = sL X 0 x.toInt64) := by
  refine WR_of ⟨rfl, rfl⟩ (Nat.le_of_ble_eq_true rfl) (fun sz Q hQ => ?_)
  refine J_aload_n (pc := 0) dL_relic_0 rfl ?_
  refine J_iconst (pc := 1) (v := 0) dL_relic_1 (by decide) ?_
  refine J_aload_n (pc := 2) dL_relic_2 rfl ?_
  refine J_iload_n (pc := 3) dL_relic_3 rfl ?_
  refine J_iload_n (pc := 4) dL_relic_4 rfl ?_
  refine J_cvI (pc := 5) (N := mX10_relic) dL_relic_5 ml_L_33 cf_X10_relic cv_X10_relic h rfl rfl (Nat.le_of_ble_eq_true rfl) hd (rv_of (ci := 10) rfl rfl rfl) (fun x X hP => ?_)
  refine J_i2l (pc := 8) dL_relic_8 ?_
  refine J_lsS (pc := 9) dL_relic_9 ?_
  refine J_goto (pc := 10) (tgt := 21) dL_relic_10 (by decide) ?_
  refine J_iconst (pc := 21) (v := 0) dL_relic_21 (by decide) ?_
  exact J_iret (pc := 22) rfl rfl rfl dL_relic_22 (hQ _ _ _ ⟨rfl, x, X, hP, rfl⟩ (Nat.le_refl _))
theorem we_relic_NS {g : Gp} {S S' : Sx} {d' : Nat} {x1 x2 : Int32} (hd : d' + 1 ≤ 40) (h : TH g mX10_relic d' [.ref 0, .int x1, .int x2] S NS S') : WR g mL_relic hL_relic [.ref 0, .int x1, .int x2, .ref 562] S (fun k Y => k = 1 ∧ Y = S') := by
  refine WR_of ⟨rfl, rfl⟩ (Nat.le_of_ble_eq_true rfl) (fun sz Q hQ => ?_)
  refine J_aload_n (pc := 0) dL_relic_0 rfl ?_
  refine J_iconst (pc := 1) (v := 0) dL_relic_1 (by decide) ?_
  refine J_aload_n (pc := 2) dL_relic_2 rfl ?_
  refine J_iload_n (pc := 3) dL_relic_3 rfl ?_
  refine J_iload_n (pc := 4) dL_relic_4 rfl ?_
  refine J_cvC (pc := 5) (N := mX10_relic) (nm := NS) (k := 4) (len := 2) rfl dL_relic_5 ml_L_33 cf_X10_relic cv_X10_relic h rfl rfl (Nat.le_of_ble_eq_true rfl) hd (by decide) (by decide) (rv_of (ci := 10) rfl rfl rfl) [] ⟨0, 10, 13, 31⟩ [⟨0, 10, 17, 13⟩] rfl (fun z hz => nomatch hz) (by decide) (by decide) cl_L31 ⟨rfl, ib_NS⟩ (Or.inr ⟨rfl, dL_relic_13⟩) (by decide) (fun sz' hsz => ?_)
  refine J_iconst (pc := 15) (v := 1) dL_relic_15 (by decide) ?_
  exact J_iret (pc := 16) rfl rfl rfl dL_relic_16 (hQ _ _ _ ⟨rfl, rfl⟩ hsz)
theorem we_relic_IA {g : Gp} {S S' : Sx} {d' : Nat} {x1 x2 : Int32} (hd : d' + 1 ≤ 40) (h : TH g mX10_relic d' [.ref 0, .int x1, .int x2] S IA S') : WR g mL_relic hL_relic [.ref 0, .int x1, .int x2, .ref 562] S (fun k Y => k = 2 ∧ Y = S') := by
  refine WR_of ⟨rfl, rfl⟩ (Nat.le_of_ble_eq_true rfl) (fun sz Q hQ => ?_)
  refine J_aload_n (pc := 0) dL_relic_0 rfl ?_
  refine J_iconst (pc := 1) (v := 0) dL_relic_1 (by decide) ?_
  refine J_aload_n (pc := 2) dL_relic_2 rfl ?_
  refine J_iload_n (pc := 3) dL_relic_3 rfl ?_
  refine J_iload_n (pc := 4) dL_relic_4 rfl ?_
  refine J_cvC (pc := 5) (N := mX10_relic) (nm := IA) (k := 4) (len := 2) rfl dL_relic_5 ml_L_33 cf_X10_relic cv_X10_relic h rfl rfl (Nat.le_of_ble_eq_true rfl) hd (by decide) (by decide) (rv_of (ci := 10) rfl rfl rfl) [⟨0, 10, 13, 31⟩] ⟨0, 10, 17, 13⟩ [] rfl (fun z hz => by rw [List.mem_singleton.mp hz]; exact Or.inr ⟨by decide, NS, cl_L31, Or.inl ⟨rfl, rfl⟩⟩) (by decide) (by decide) cl_L13 ⟨rfl, ib_IA⟩ (Or.inr ⟨rfl, dL_relic_17⟩) (by decide) (fun sz' hsz => ?_)
  refine J_iconst (pc := 19) (v := 2) dL_relic_19 (by decide) ?_
  exact J_iret (pc := 20) rfl rfl rfl dL_relic_20 (hQ _ _ _ ⟨rfl, rfl⟩ hsz)
abbrev mL_pilgrim : Mt := (yL_pilgrim, cL_pilgrim, 5, some .int)
abbrev hL_pilgrim : List (Nat × Nat × Nat × Nat) := [(0, 10, 13, 31), (0, 10, 17, 13)]
set_option maxRecDepth 100000 in
theorem cfw_L_pilgrim : CFW mL_pilgrim hL_pilgrim 4 := ⟨⟨List.mem_of_getElem? (i := 1139) rfl, rfl⟩, ⟨List.mem_of_getElem? (i := 146) rfl, rfl⟩, ⟨by decide, by decide⟩, by decide, by decide⟩
set_option maxRecDepth 100000 in
theorem cs_L_pilgrim : InT (.static yL_pilgrim) := ⟨List.mem_of_getElem? (i := 1138) rfl, rfl⟩
theorem wg_pilgrim {g : Gp} {S : Sx} {d' : Nat} {x1 x2 : Int32} {P : Int32 → Sx → Prop} (hd : d' + 1 ≤ 40) (h : RI g mX10_pilgrim d' [.ref 0, .int x1, .int x2] S P) : WR g mL_pilgrim hL_pilgrim [.ref 0, .int x1, .int x2, .ref 562] S (fun k Y => k = 0 ∧ ∃ x X, P x X ∧ Y = sL X 0 x.toInt64) := by
  refine WR_of ⟨rfl, rfl⟩ (Nat.le_of_ble_eq_true rfl) (fun sz Q hQ => ?_)
  refine J_aload_n (pc := 0) dL_pilgrim_0 rfl ?_
  refine J_iconst (pc := 1) (v := 0) dL_pilgrim_1 (by decide) ?_
  refine J_aload_n (pc := 2) dL_pilgrim_2 rfl ?_
  refine J_iload_n (pc := 3) dL_pilgrim_3 rfl ?_
  refine J_iload_n (pc := 4) dL_pilgrim_4 rfl ?_
  refine J_cvI (pc := 5) (N := mX10_pilgrim) dL_pilgrim_5 ml_L_36 cf_X10_pilgrim cv_X10_pilgrim h rfl rfl (Nat.le_of_ble_eq_true rfl) hd (rv_of (ci := 10) rfl rfl rfl) (fun x X hP => ?_)
  refine J_i2l (pc := 8) dL_pilgrim_8 ?_
  refine J_lsS (pc := 9) dL_pilgrim_9 ?_
  refine J_goto (pc := 10) (tgt := 21) dL_pilgrim_10 (by decide) ?_
  refine J_iconst (pc := 21) (v := 0) dL_pilgrim_21 (by decide) ?_
  exact J_iret (pc := 22) rfl rfl rfl dL_pilgrim_22 (hQ _ _ _ ⟨rfl, x, X, hP, rfl⟩ (Nat.le_refl _))
theorem we_pilgrim_NS {g : Gp} {S S' : Sx} {d' : Nat} {x1 x2 : Int32} (hd : d' + 1 ≤ 40) (h : TH g mX10_pilgrim d' [.ref 0, .int x1, .int x2] S NS S') : WR g mL_pilgrim hL_pilgrim [.ref 0, .int x1, .int x2, .ref 562] S (fun k Y => k = 1 ∧ Y = S') := by
  refine WR_of ⟨rfl, rfl⟩ (Nat.le_of_ble_eq_true rfl) (fun sz Q hQ => ?_)
  refine J_aload_n (pc := 0) dL_pilgrim_0 rfl ?_
  refine J_iconst (pc := 1) (v := 0) dL_pilgrim_1 (by decide) ?_
  refine J_aload_n (pc := 2) dL_pilgrim_2 rfl ?_
  refine J_iload_n (pc := 3) dL_pilgrim_3 rfl ?_
  refine J_iload_n (pc := 4) dL_pilgrim_4 rfl ?_
  refine J_cvC (pc := 5) (N := mX10_pilgrim) (nm := NS) (k := 4) (len := 2) rfl dL_pilgrim_5 ml_L_36 cf_X10_pilgrim cv_X10_pilgrim h rfl rfl (Nat.le_of_ble_eq_true rfl) hd (by decide) (by decide) (rv_of (ci := 10) rfl rfl rfl) [] ⟨0, 10, 13, 31⟩ [⟨0, 10, 17, 13⟩] rfl (fun z hz => nomatch hz) (by decide) (by decide) cl_L31 ⟨rfl, ib_NS⟩ (Or.inr ⟨rfl, dL_pilgrim_13⟩) (by decide) (fun sz' hsz => ?_)
  refine J_iconst (pc := 15) (v := 1) dL_pilgrim_15 (by decide) ?_
  exact J_iret (pc := 16) rfl rfl rfl dL_pilgrim_16 (hQ _ _ _ ⟨rfl, rfl⟩ hsz)
theorem we_pilgrim_IA {g : Gp} {S S' : Sx} {d' : Nat} {x1 x2 : Int32} (hd : d' + 1 ≤ 40) (h : TH g mX10_pilgrim d' [.ref 0, .int x1, .int x2] S IA S') : WR g mL_pilgrim hL_pilgrim [.ref 0, .int x1, .int x2, .ref 562] S (fun k Y => k = 2 ∧ Y = S') := by
  refine WR_of ⟨rfl, rfl⟩ (Nat.le_of_ble_eq_true rfl) (fun sz Q hQ => ?_)
  refine J_aload_n (pc := 0) dL_pilgrim_0 rfl ?_
  refine J_iconst (pc := 1) (v := 0) dL_pilgrim_1 (by decide) ?_
  refine J_aload_n (pc := 2) dL_pilgrim_2 rfl ?_
  refine J_iload_n (pc := 3) dL_pilgrim_3 rfl ?_
  refine J_iload_n (pc := 4) dL_pilgrim_4 rfl ?_
  refine J_cvC (pc := 5) (N := mX10_pilgrim) (nm := IA) (k := 4) (len := 2) rfl dL_pilgrim_5 ml_L_36 cf_X10_pilgrim cv_X10_pilgrim h rfl rfl (Nat.le_of_ble_eq_true rfl) hd (by decide) (by decide) (rv_of (ci := 10) rfl rfl rfl) [⟨0, 10, 13, 31⟩] ⟨0, 10, 17, 13⟩ [] rfl (fun z hz => by rw [List.mem_singleton.mp hz]; exact Or.inr ⟨by decide, NS, cl_L31, Or.inl ⟨rfl, rfl⟩⟩) (by decide) (by decide) cl_L13 ⟨rfl, ib_IA⟩ (Or.inr ⟨rfl, dL_pilgrim_17⟩) (by decide) (fun sz' hsz => ?_)
  refine J_iconst (pc := 19) (v := 2) dL_pilgrim_19 (by decide) ?_
  exact J_iret (pc := 20) rfl rfl rfl dL_pilgrim_20 (hQ _ _ _ ⟨rfl, rfl⟩ hsz)
abbrev mL_would : Mt := (yL_would, cL_would, 11, some .int)
abbrev hL_would : List (Nat × Nat × Nat × Nat) := [(0, 22, 25, 13)]
set_option maxRecDepth 100000 in
theorem cfw_L_would : CFW mL_would hL_would 10 := ⟨⟨List.mem_of_getElem? (i := 1151) rfl, rfl⟩, ⟨List.mem_of_getElem? (i := 146) rfl, rfl⟩, ⟨by decide, by decide⟩, by decide, by decide⟩
set_option maxRecDepth 100000 in
theorem cs_L_would : InT (.static yL_would) := ⟨List.mem_of_getElem? (i := 1150) rfl, rfl⟩
theorem wg_would {g : Gp} {S : Sx} {d' : Nat} {x1 x2 x3 x4 x5 x6 x7 x8 : Int32} {P : Int32 → Sx → Prop} (hd : d' + 1 ≤ 40) (h : RI g mX10_would d' [.ref 0, .int x1, .int x2, .int x3, .int x4, .int x5, .int x6, .int x7, .int x8] S P) : WR g mL_would hL_would [.ref 0, .int x1, .int x2, .int x3, .int x4, .int x5, .int x6, .int x7, .int x8, .ref 562] S (fun k Y => k = 0 ∧ ∃ x X, P x X ∧ Y = sL X 0 x.toInt64) := by
  refine WR_of ⟨rfl, rfl⟩ (Nat.le_of_ble_eq_true rfl) (fun sz Q hQ => ?_)
  refine J_aload (pc := 0) dL_would_0 rfl ?_
  refine J_iconst (pc := 2) (v := 0) dL_would_2 (by decide) ?_
  refine J_aload_n (pc := 3) dL_would_3 rfl ?_
  refine J_iload_n (pc := 4) dL_would_4 rfl ?_
  refine J_iload_n (pc := 5) dL_would_5 rfl ?_
  refine J_iload_n (pc := 6) dL_would_6 rfl ?_
  refine J_iload (pc := 7) dL_would_7 rfl ?_
  refine J_iload (pc := 9) dL_would_9 rfl ?_
  refine J_iload (pc := 11) dL_would_11 rfl ?_
  refine J_iload (pc := 13) dL_would_13 rfl ?_
  refine J_iload (pc := 15) dL_would_15 rfl ?_
  refine J_cvI (pc := 17) (N := mX10_would) dL_would_17 ml_L_39 cf_X10_would cv_X10_would h rfl rfl (Nat.le_of_ble_eq_true rfl) hd (rv_of (ci := 10) rfl rfl rfl) (fun x X hP => ?_)
  refine J_i2l (pc := 20) dL_would_20 ?_
  refine J_lsS (pc := 21) dL_would_21 ?_
  refine J_goto (pc := 22) (tgt := 29) dL_would_22 (by decide) ?_
  refine J_iconst (pc := 29) (v := 0) dL_would_29 (by decide) ?_
  exact J_iret (pc := 30) rfl rfl rfl dL_would_30 (hQ _ _ _ ⟨rfl, x, X, hP, rfl⟩ (Nat.le_refl _))
theorem we_would_IA {g : Gp} {S S' : Sx} {d' : Nat} {x1 x2 x3 x4 x5 x6 x7 x8 : Int32} (hd : d' + 1 ≤ 40) (h : TH g mX10_would d' [.ref 0, .int x1, .int x2, .int x3, .int x4, .int x5, .int x6, .int x7, .int x8] S IA S') : WR g mL_would hL_would [.ref 0, .int x1, .int x2, .int x3, .int x4, .int x5, .int x6, .int x7, .int x8, .ref 562] S (fun k Y => k = 1 ∧ Y = S') := by
  refine WR_of ⟨rfl, rfl⟩ (Nat.le_of_ble_eq_true rfl) (fun sz Q hQ => ?_)
  refine J_aload (pc := 0) dL_would_0 rfl ?_
  refine J_iconst (pc := 2) (v := 0) dL_would_2 (by decide) ?_
  refine J_aload_n (pc := 3) dL_would_3 rfl ?_
  refine J_iload_n (pc := 4) dL_would_4 rfl ?_
  refine J_iload_n (pc := 5) dL_would_5 rfl ?_
  refine J_iload_n (pc := 6) dL_would_6 rfl ?_
  refine J_iload (pc := 7) dL_would_7 rfl ?_
  refine J_iload (pc := 9) dL_would_9 rfl ?_
  refine J_iload (pc := 11) dL_would_11 rfl ?_
  refine J_iload (pc := 13) dL_would_13 rfl ?_
  refine J_iload (pc := 15) dL_would_15 rfl ?_
  refine J_cvC (pc := 17) (N := mX10_would) (nm := IA) (k := 10) (len := 2) rfl dL_would_17 ml_L_39 cf_X10_would cv_X10_would h rfl rfl (Nat.le_of_ble_eq_true rfl) hd (by decide) (by decide) (rv_of (ci := 10) rfl rfl rfl) [] ⟨0, 22, 25, 13⟩ [] rfl (fun z hz => nomatch hz) (by decide) (by decide) cl_L13 ⟨rfl, ib_IA⟩ (Or.inr ⟨rfl, dL_would_25⟩) (by decide) (fun sz' hsz => ?_)
  refine J_iconst (pc := 27) (v := 1) dL_would_27 (by decide) ?_
  exact J_iret (pc := 28) rfl rfl rfl dL_would_28 (hQ _ _ _ ⟨rfl, rfl⟩ hsz)
abbrev mL_can : Mt := (yL_can, cL_can, 5, some .int)
abbrev hL_can : List (Nat × Nat × Nat × Nat) := [(0, 17, 20, 31)]
set_option maxRecDepth 100000 in
theorem cfw_L_can : CFW mL_can hL_can 4 := ⟨⟨List.mem_of_getElem? (i := 1159) rfl, rfl⟩, ⟨List.mem_of_getElem? (i := 146) rfl, rfl⟩, ⟨by decide, by decide⟩, by decide, by decide⟩
set_option maxRecDepth 100000 in
theorem cs_L_can : InT (.static yL_can) := ⟨List.mem_of_getElem? (i := 1158) rfl, rfl⟩
theorem wg_can {g : Gp} {S : Sx} {d' : Nat} {x1 x2 : Int32} {P : Int32 → Sx → Prop} (hd : d' + 1 ≤ 40) (h : RI g mX10_can d' [.ref 0, .int x1, .int x2] S P) : WR g mL_can hL_can [.ref 0, .int x1, .int x2, .ref 562] S (fun k Y => k = 0 ∧ ∃ x X, P x X ∧ Y = sL X 0 (if x = 0 then 0 else 1)) := by
  refine WR_of ⟨rfl, rfl⟩ (Nat.le_of_ble_eq_true rfl) (fun sz Q hQ => ?_)
  refine J_aload_n (pc := 0) dL_can_0 rfl ?_
  refine J_iconst (pc := 1) (v := 0) dL_can_1 (by decide) ?_
  refine J_aload_n (pc := 2) dL_can_2 rfl ?_
  refine J_iload_n (pc := 3) dL_can_3 rfl ?_
  refine J_iload_n (pc := 4) dL_can_4 rfl ?_
  refine J_cvI (pc := 5) (N := mX10_can) dL_can_5 ml_L_43 cf_X10_can cv_X10_can h rfl rfl (Nat.le_of_ble_eq_true rfl) hd (rv_of (ci := 10) rfl rfl rfl) (fun x X hP => ?_)
  refine J_if_eq (pc := 8) (tgt := 15) dL_can_8 (by decide) (fun c8 => ?_) (fun c8 => ?_)
  · refine J_lconst (pc := 15) (v := 0) dL_can_15 (by decide) ?_
    refine J_lsS (pc := 16) dL_can_16 ?_
    refine J_goto (pc := 17) (tgt := 24) dL_can_17 (by decide) ?_
    refine J_iconst (pc := 24) (v := 0) dL_can_24 (by decide) ?_
    exact J_iret (pc := 25) rfl rfl rfl dL_can_25 (hQ _ _ _ ⟨rfl, x, X, hP, by rw [if_pos c8]⟩ (Nat.le_refl _))
  · refine J_lconst (pc := 11) (v := 1) dL_can_11 (by decide) ?_
    refine J_goto (pc := 12) (tgt := 16) dL_can_12 (by decide) ?_
    refine J_lsS (pc := 16) dL_can_16 ?_
    refine J_goto (pc := 17) (tgt := 24) dL_can_17 (by decide) ?_
    refine J_iconst (pc := 24) (v := 0) dL_can_24 (by decide) ?_
    exact J_iret (pc := 25) rfl rfl rfl dL_can_25 (hQ _ _ _ ⟨rfl, x, X, hP, by rw [if_neg c8]⟩ (Nat.le_refl _))
theorem we_can_NS {g : Gp} {S S' : Sx} {d' : Nat} {x1 x2 : Int32} (hd : d' + 1 ≤ 40) (h : TH g mX10_can d' [.ref 0, .int x1, .int x2] S NS S') : WR g mL_can hL_can [.ref 0, .int x1, .int x2, .ref 562] S (fun k Y => k = 1 ∧ Y = S') := by
  refine WR_of ⟨rfl, rfl⟩ (Nat.le_of_ble_eq_true rfl) (fun sz Q hQ => ?_)
  refine J_aload_n (pc := 0) dL_can_0 rfl ?_
  refine J_iconst (pc := 1) (v := 0) dL_can_1 (by decide) ?_
  refine J_aload_n (pc := 2) dL_can_2 rfl ?_
  refine J_iload_n (pc := 3) dL_can_3 rfl ?_
  refine J_iload_n (pc := 4) dL_can_4 rfl ?_
  refine J_cvC (pc := 5) (N := mX10_can) (nm := NS) (k := 4) (len := 2) rfl dL_can_5 ml_L_43 cf_X10_can cv_X10_can h rfl rfl (Nat.le_of_ble_eq_true rfl) hd (by decide) (by decide) (rv_of (ci := 10) rfl rfl rfl) [] ⟨0, 17, 20, 31⟩ [] rfl (fun z hz => nomatch hz) (by decide) (by decide) cl_L31 ⟨rfl, ib_NS⟩ (Or.inr ⟨rfl, dL_can_20⟩) (by decide) (fun sz' hsz => ?_)
  refine J_iconst (pc := 22) (v := 1) dL_can_22 (by decide) ?_
  exact J_iret (pc := 23) rfl rfl rfl dL_can_23 (hQ _ _ _ ⟨rfl, rfl⟩ hsz)
abbrev mL_when : Mt := (yL_when, cL_when, 5, some .int)
abbrev hL_when : List (Nat × Nat × Nat × Nat) := [(0, 10, 13, 31)]
set_option maxRecDepth 100000 in
theorem cfw_L_when : CFW mL_when hL_when 4 := ⟨⟨List.mem_of_getElem? (i := 1167) rfl, rfl⟩, ⟨List.mem_of_getElem? (i := 146) rfl, rfl⟩, ⟨by decide, by decide⟩, by decide, by decide⟩
set_option maxRecDepth 100000 in
theorem cs_L_when : InT (.static yL_when) := ⟨List.mem_of_getElem? (i := 1166) rfl, rfl⟩
theorem wg_when {g : Gp} {S : Sx} {d' : Nat} {x1 x2 : Int32} {P : Int32 → Sx → Prop} (hd : d' + 1 ≤ 40) (h : RI g mX10_when d' [.ref 0, .int x1, .int x2] S P) : WR g mL_when hL_when [.ref 0, .int x1, .int x2, .ref 562] S (fun k Y => k = 0 ∧ ∃ x X, P x X ∧ Y = sL X 0 x.toInt64) := by
  refine WR_of ⟨rfl, rfl⟩ (Nat.le_of_ble_eq_true rfl) (fun sz Q hQ => ?_)
  refine J_aload_n (pc := 0) dL_when_0 rfl ?_
  refine J_iconst (pc := 1) (v := 0) dL_when_1 (by decide) ?_
  refine J_aload_n (pc := 2) dL_when_2 rfl ?_
  refine J_iload_n (pc := 3) dL_when_3 rfl ?_
  refine J_iload_n (pc := 4) dL_when_4 rfl ?_
  refine J_cvI (pc := 5) (N := mX10_when) dL_when_5 ml_L_47 cf_X10_when cv_X10_when h rfl rfl (Nat.le_of_ble_eq_true rfl) hd (rv_of (ci := 10) rfl rfl rfl) (fun x X hP => ?_)
  refine J_i2l (pc := 8) dL_when_8 ?_
  refine J_lsS (pc := 9) dL_when_9 ?_
  refine J_goto (pc := 10) (tgt := 17) dL_when_10 (by decide) ?_
  refine J_iconst (pc := 17) (v := 0) dL_when_17 (by decide) ?_
  exact J_iret (pc := 18) rfl rfl rfl dL_when_18 (hQ _ _ _ ⟨rfl, x, X, hP, rfl⟩ (Nat.le_refl _))
theorem we_when_NS {g : Gp} {S S' : Sx} {d' : Nat} {x1 x2 : Int32} (hd : d' + 1 ≤ 40) (h : TH g mX10_when d' [.ref 0, .int x1, .int x2] S NS S') : WR g mL_when hL_when [.ref 0, .int x1, .int x2, .ref 562] S (fun k Y => k = 1 ∧ Y = S') := by
  refine WR_of ⟨rfl, rfl⟩ (Nat.le_of_ble_eq_true rfl) (fun sz Q hQ => ?_)
  refine J_aload_n (pc := 0) dL_when_0 rfl ?_
  refine J_iconst (pc := 1) (v := 0) dL_when_1 (by decide) ?_
  refine J_aload_n (pc := 2) dL_when_2 rfl ?_
  refine J_iload_n (pc := 3) dL_when_3 rfl ?_
  refine J_iload_n (pc := 4) dL_when_4 rfl ?_
  refine J_cvC (pc := 5) (N := mX10_when) (nm := NS) (k := 4) (len := 2) rfl dL_when_5 ml_L_47 cf_X10_when cv_X10_when h rfl rfl (Nat.le_of_ble_eq_true rfl) hd (by decide) (by decide) (rv_of (ci := 10) rfl rfl rfl) [] ⟨0, 10, 13, 31⟩ [] rfl (fun z hz => nomatch hz) (by decide) (by decide) cl_L31 ⟨rfl, ib_NS⟩ (Or.inr ⟨rfl, dL_when_13⟩) (by decide) (fun sz' hsz => ?_)
  refine J_iconst (pc := 15) (v := 1) dL_when_15 (by decide) ?_
  exact J_iret (pc := 16) rfl rfl rfl dL_when_16 (hQ _ _ _ ⟨rfl, rfl⟩ hsz)
abbrev mL_ahead : Mt := (yL_ahead, cL_ahead, 6, some .int)
abbrev hL_ahead : List (Nat × Nat × Nat × Nat) := [(0, 12, 15, 31), (0, 12, 19, 13)]
set_option maxRecDepth 100000 in
theorem cfw_L_ahead : CFW mL_ahead hL_ahead 5 := ⟨⟨List.mem_of_getElem? (i := 1174) rfl, rfl⟩, ⟨List.mem_of_getElem? (i := 146) rfl, rfl⟩, ⟨by decide, by decide⟩, by decide, by decide⟩
set_option maxRecDepth 100000 in
theorem cs_L_ahead : InT (.static yL_ahead) := ⟨List.mem_of_getElem? (i := 1173) rfl, rfl⟩
theorem wg_ahead {g : Gp} {S : Sx} {d' : Nat} {x1 x2 x3 : Int32} {P : Int32 → Sx → Prop} (hd : d' + 1 ≤ 40) (h : RI g mX10_ahead d' [.ref 0, .int x1, .int x2, .int x3] S P) : WR g mL_ahead hL_ahead [.ref 0, .int x1, .int x2, .int x3, .ref 562] S (fun k Y => k = 0 ∧ ∃ x X, P x X ∧ Y = sL X 0 x.toInt64) := by
  refine WR_of ⟨rfl, rfl⟩ (Nat.le_of_ble_eq_true rfl) (fun sz Q hQ => ?_)
  refine J_aload (pc := 0) dL_ahead_0 rfl ?_
  refine J_iconst (pc := 2) (v := 0) dL_ahead_2 (by decide) ?_
  refine J_aload_n (pc := 3) dL_ahead_3 rfl ?_
  refine J_iload_n (pc := 4) dL_ahead_4 rfl ?_
  refine J_iload_n (pc := 5) dL_ahead_5 rfl ?_
  refine J_iload_n (pc := 6) dL_ahead_6 rfl ?_
  refine J_cvI (pc := 7) (N := mX10_ahead) dL_ahead_7 ml_L_50 cf_X10_ahead cv_X10_ahead h rfl rfl (Nat.le_of_ble_eq_true rfl) hd (rv_of (ci := 10) rfl rfl rfl) (fun x X hP => ?_)
  refine J_i2l (pc := 10) dL_ahead_10 ?_
  refine J_lsS (pc := 11) dL_ahead_11 ?_
  refine J_goto (pc := 12) (tgt := 23) dL_ahead_12 (by decide) ?_
  refine J_iconst (pc := 23) (v := 0) dL_ahead_23 (by decide) ?_
  exact J_iret (pc := 24) rfl rfl rfl dL_ahead_24 (hQ _ _ _ ⟨rfl, x, X, hP, rfl⟩ (Nat.le_refl _))
theorem we_ahead_NS {g : Gp} {S S' : Sx} {d' : Nat} {x1 x2 x3 : Int32} (hd : d' + 1 ≤ 40) (h : TH g mX10_ahead d' [.ref 0, .int x1, .int x2, .int x3] S NS S') : WR g mL_ahead hL_ahead [.ref 0, .int x1, .int x2, .int x3, .ref 562] S (fun k Y => k = 1 ∧ Y = S') := by
  refine WR_of ⟨rfl, rfl⟩ (Nat.le_of_ble_eq_true rfl) (fun sz Q hQ => ?_)
  refine J_aload (pc := 0) dL_ahead_0 rfl ?_
  refine J_iconst (pc := 2) (v := 0) dL_ahead_2 (by decide) ?_
  refine J_aload_n (pc := 3) dL_ahead_3 rfl ?_
  refine J_iload_n (pc := 4) dL_ahead_4 rfl ?_
  refine J_iload_n (pc := 5) dL_ahead_5 rfl ?_
  refine J_iload_n (pc := 6) dL_ahead_6 rfl ?_
  refine J_cvC (pc := 7) (N := mX10_ahead) (nm := NS) (k := 5) (len := 2) rfl dL_ahead_7 ml_L_50 cf_X10_ahead cv_X10_ahead h rfl rfl (Nat.le_of_ble_eq_true rfl) hd (by decide) (by decide) (rv_of (ci := 10) rfl rfl rfl) [] ⟨0, 12, 15, 31⟩ [⟨0, 12, 19, 13⟩] rfl (fun z hz => nomatch hz) (by decide) (by decide) cl_L31 ⟨rfl, ib_NS⟩ (Or.inr ⟨rfl, dL_ahead_15⟩) (by decide) (fun sz' hsz => ?_)
  refine J_iconst (pc := 17) (v := 1) dL_ahead_17 (by decide) ?_
  exact J_iret (pc := 18) rfl rfl rfl dL_ahead_18 (hQ _ _ _ ⟨rfl, rfl⟩ hsz)
theorem we_ahead_IA {g : Gp} {S S' : Sx} {d' : Nat} {x1 x2 x3 : Int32} (hd : d' + 1 ≤ 40) (h : TH g mX10_ahead d' [.ref 0, .int x1, .int x2, .int x3] S IA S') : WR g mL_ahead hL_ahead [.ref 0, .int x1, .int x2, .int x3, .ref 562] S (fun k Y => k = 2 ∧ Y = S') := by
  refine WR_of ⟨rfl, rfl⟩ (Nat.le_of_ble_eq_true rfl) (fun sz Q hQ => ?_)
  refine J_aload (pc := 0) dL_ahead_0 rfl ?_
  refine J_iconst (pc := 2) (v := 0) dL_ahead_2 (by decide) ?_
  refine J_aload_n (pc := 3) dL_ahead_3 rfl ?_
  refine J_iload_n (pc := 4) dL_ahead_4 rfl ?_
  refine J_iload_n (pc := 5) dL_ahead_5 rfl ?_
  refine J_iload_n (pc := 6) dL_ahead_6 rfl ?_
  refine J_cvC (pc := 7) (N := mX10_ahead) (nm := IA) (k := 5) (len := 2) rfl dL_ahead_7 ml_L_50 cf_X10_ahead cv_X10_ahead h rfl rfl (Nat.le_of_ble_eq_true rfl) hd (by decide) (by decide) (rv_of (ci := 10) rfl rfl rfl) [⟨0, 12, 15, 31⟩] ⟨0, 12, 19, 13⟩ [] rfl (fun z hz => by rw [List.mem_singleton.mp hz]; exact Or.inr ⟨by decide, NS, cl_L31, Or.inl ⟨rfl, rfl⟩⟩) (by decide) (by decide) cl_L13 ⟨rfl, ib_IA⟩ (Or.inr ⟨rfl, dL_ahead_19⟩) (by decide) (fun sz' hsz => ?_)
  refine J_iconst (pc := 21) (v := 2) dL_ahead_21 (by decide) ?_
  exact J_iret (pc := 22) rfl rfl rfl dL_ahead_22 (hQ _ _ _ ⟨rfl, rfl⟩ hsz)
abbrev mL_matched : Mt := (yL_matched, cL_matched, 4, some .int)
abbrev hL_matched : List (Nat × Nat × Nat × Nat) := [(0, 9, 12, 31)]
set_option maxRecDepth 100000 in
theorem cfw_L_matched : CFW mL_matched hL_matched 3 := ⟨⟨List.mem_of_getElem? (i := 1186) rfl, rfl⟩, ⟨List.mem_of_getElem? (i := 146) rfl, rfl⟩, ⟨by decide, by decide⟩, by decide, by decide⟩
set_option maxRecDepth 100000 in
theorem cs_L_matched : InT (.static yL_matched) := ⟨List.mem_of_getElem? (i := 1185) rfl, rfl⟩
theorem wg_matched {g : Gp} {S : Sx} {d' : Nat} {x1 : Int32} {P : Int32 → Sx → Prop} (hd : d' + 1 ≤ 40) (h : RI g mX10_matched d' [.ref 0, .int x1] S P) : WR g mL_matched hL_matched [.ref 0, .int x1, .ref 562] S (fun k Y => k = 0 ∧ ∃ x X, P x X ∧ Y = sL X 0 x.toInt64) := by
  refine WR_of ⟨rfl, rfl⟩ (Nat.le_of_ble_eq_true rfl) (fun sz Q hQ => ?_)
  refine J_aload_n (pc := 0) dL_matched_0 rfl ?_
  refine J_iconst (pc := 1) (v := 0) dL_matched_1 (by decide) ?_
  refine J_aload_n (pc := 2) dL_matched_2 rfl ?_
  refine J_iload_n (pc := 3) dL_matched_3 rfl ?_
  refine J_cvI (pc := 4) (N := mX10_matched) dL_matched_4 ml_L_54 cf_X10_matched cv_X10_matched h rfl rfl (Nat.le_of_ble_eq_true rfl) hd (rv_of (ci := 10) rfl rfl rfl) (fun x X hP => ?_)
  refine J_i2l (pc := 7) dL_matched_7 ?_
  refine J_lsS (pc := 8) dL_matched_8 ?_
  refine J_goto (pc := 9) (tgt := 15) dL_matched_9 (by decide) ?_
  refine J_iconst (pc := 15) (v := 0) dL_matched_15 (by decide) ?_
  exact J_iret (pc := 16) rfl rfl rfl dL_matched_16 (hQ _ _ _ ⟨rfl, x, X, hP, rfl⟩ (Nat.le_refl _))
theorem we_matched_NS {g : Gp} {S S' : Sx} {d' : Nat} {x1 : Int32} (hd : d' + 1 ≤ 40) (h : TH g mX10_matched d' [.ref 0, .int x1] S NS S') : WR g mL_matched hL_matched [.ref 0, .int x1, .ref 562] S (fun k Y => k = 1 ∧ Y = S') := by
  refine WR_of ⟨rfl, rfl⟩ (Nat.le_of_ble_eq_true rfl) (fun sz Q hQ => ?_)
  refine J_aload_n (pc := 0) dL_matched_0 rfl ?_
  refine J_iconst (pc := 1) (v := 0) dL_matched_1 (by decide) ?_
  refine J_aload_n (pc := 2) dL_matched_2 rfl ?_
  refine J_iload_n (pc := 3) dL_matched_3 rfl ?_
  refine J_cvC (pc := 4) (N := mX10_matched) (nm := NS) (k := 3) (len := 1) rfl dL_matched_4 ml_L_54 cf_X10_matched cv_X10_matched h rfl rfl (Nat.le_of_ble_eq_true rfl) hd (by decide) (by decide) (rv_of (ci := 10) rfl rfl rfl) [] ⟨0, 9, 12, 31⟩ [] rfl (fun z hz => nomatch hz) (by decide) (by decide) cl_L31 ⟨rfl, ib_NS⟩ (Or.inl ⟨3, rfl, rfl, dL_matched_12⟩) (by decide) (fun sz' hsz => ?_)
  refine J_iconst (pc := 13) (v := 1) dL_matched_13 (by decide) ?_
  exact J_iret (pc := 14) rfl rfl rfl dL_matched_14 (hQ _ _ _ ⟨rfl, rfl⟩ hsz)
abbrev mL_lapsed : Mt := (yL_lapsed, cL_lapsed, 4, some .int)
abbrev hL_lapsed : List (Nat × Nat × Nat × Nat) := [(0, 9, 12, 13)]
set_option maxRecDepth 100000 in
theorem cfw_L_lapsed : CFW mL_lapsed hL_lapsed 3 := ⟨⟨List.mem_of_getElem? (i := 1193) rfl, rfl⟩, ⟨List.mem_of_getElem? (i := 146) rfl, rfl⟩, ⟨by decide, by decide⟩, by decide, by decide⟩
set_option maxRecDepth 100000 in
theorem cs_L_lapsed : InT (.static yL_lapsed) := ⟨List.mem_of_getElem? (i := 1192) rfl, rfl⟩
theorem wg_lapsed {g : Gp} {S : Sx} {d' : Nat} {x1 : Int32} {P : Int32 → Sx → Prop} (hd : d' + 1 ≤ 40) (h : RI g mX10_lapsed d' [.ref 0, .int x1] S P) : WR g mL_lapsed hL_lapsed [.ref 0, .int x1, .ref 562] S (fun k Y => k = 0 ∧ ∃ x X, P x X ∧ Y = sL X 0 x.toInt64) := by
  refine WR_of ⟨rfl, rfl⟩ (Nat.le_of_ble_eq_true rfl) (fun sz Q hQ => ?_)
  refine J_aload_n (pc := 0) dL_lapsed_0 rfl ?_
  refine J_iconst (pc := 1) (v := 0) dL_lapsed_1 (by decide) ?_
  refine J_aload_n (pc := 2) dL_lapsed_2 rfl ?_
  refine J_iload_n (pc := 3) dL_lapsed_3 rfl ?_
  refine J_cvI (pc := 4) (N := mX10_lapsed) dL_lapsed_4 ml_L_57 cf_X10_lapsed cv_X10_lapsed h rfl rfl (Nat.le_of_ble_eq_true rfl) hd (rv_of (ci := 10) rfl rfl rfl) (fun x X hP => ?_)
  refine J_i2l (pc := 7) dL_lapsed_7 ?_
  refine J_lsS (pc := 8) dL_lapsed_8 ?_
  refine J_goto (pc := 9) (tgt := 15) dL_lapsed_9 (by decide) ?_
  refine J_iconst (pc := 15) (v := 0) dL_lapsed_15 (by decide) ?_
  exact J_iret (pc := 16) rfl rfl rfl dL_lapsed_16 (hQ _ _ _ ⟨rfl, x, X, hP, rfl⟩ (Nat.le_refl _))
theorem we_lapsed_IA {g : Gp} {S S' : Sx} {d' : Nat} {x1 : Int32} (hd : d' + 1 ≤ 40) (h : TH g mX10_lapsed d' [.ref 0, .int x1] S IA S') : WR g mL_lapsed hL_lapsed [.ref 0, .int x1, .ref 562] S (fun k Y => k = 1 ∧ Y = S') := by
  refine WR_of ⟨rfl, rfl⟩ (Nat.le_of_ble_eq_true rfl) (fun sz Q hQ => ?_)
  refine J_aload_n (pc := 0) dL_lapsed_0 rfl ?_
  refine J_iconst (pc := 1) (v := 0) dL_lapsed_1 (by decide) ?_
  refine J_aload_n (pc := 2) dL_lapsed_2 rfl ?_
  refine J_iload_n (pc := 3) dL_lapsed_3 rfl ?_
  refine J_cvC (pc := 4) (N := mX10_lapsed) (nm := IA) (k := 3) (len := 1) rfl dL_lapsed_4 ml_L_57 cf_X10_lapsed cv_X10_lapsed h rfl rfl (Nat.le_of_ble_eq_true rfl) hd (by decide) (by decide) (rv_of (ci := 10) rfl rfl rfl) [] ⟨0, 9, 12, 13⟩ [] rfl (fun z hz => nomatch hz) (by decide) (by decide) cl_L13 ⟨rfl, ib_IA⟩ (Or.inl ⟨3, rfl, rfl, dL_lapsed_12⟩) (by decide) (fun sz' hsz => ?_)
  refine J_iconst (pc := 13) (v := 1) dL_lapsed_13 (by decide) ?_
  exact J_iret (pc := 14) rfl rfl rfl dL_lapsed_14 (hQ _ _ _ ⟨rfl, rfl⟩ hsz)
abbrev mL_ask : Mt := (yL_ask, cL_ask, 4, some .int)
abbrev hL_ask : List (Nat × Nat × Nat × Nat) := [(0, 9, 12, 13)]
set_option maxRecDepth 100000 in
theorem cfw_L_ask : CFW mL_ask hL_ask 3 := ⟨⟨List.mem_of_getElem? (i := 1224) rfl, rfl⟩, ⟨List.mem_of_getElem? (i := 146) rfl, rfl⟩, ⟨by decide, by decide⟩, by decide, by decide⟩
set_option maxRecDepth 100000 in
theorem cs_L_ask : InT (.static yL_ask) := ⟨List.mem_of_getElem? (i := 1223) rfl, rfl⟩
theorem wg_ask {g : Gp} {S : Sx} {d' : Nat} {x1 : Int32} {P : Int32 → Sx → Prop} (hd : d' + 1 ≤ 40) (h : RI g mX10_ask d' [.ref 0, .int x1] S P) : WR g mL_ask hL_ask [.ref 0, .int x1, .ref 562] S (fun k Y => k = 0 ∧ ∃ x X, P x X ∧ Y = sL X 0 x.toInt64) := by
  refine WR_of ⟨rfl, rfl⟩ (Nat.le_of_ble_eq_true rfl) (fun sz Q hQ => ?_)
  refine J_aload_n (pc := 0) dL_ask_0 rfl ?_
  refine J_iconst (pc := 1) (v := 0) dL_ask_1 (by decide) ?_
  refine J_aload_n (pc := 2) dL_ask_2 rfl ?_
  refine J_iload_n (pc := 3) dL_ask_3 rfl ?_
  refine J_cvI (pc := 4) (N := mX10_ask) dL_ask_4 ml_L_60 cf_X10_ask cv_X10_ask h rfl rfl (Nat.le_of_ble_eq_true rfl) hd (rv_of (ci := 10) rfl rfl rfl) (fun x X hP => ?_)
  refine J_i2l (pc := 7) dL_ask_7 ?_
  refine J_lsS (pc := 8) dL_ask_8 ?_
  refine J_goto (pc := 9) (tgt := 15) dL_ask_9 (by decide) ?_
  refine J_iconst (pc := 15) (v := 0) dL_ask_15 (by decide) ?_
  exact J_iret (pc := 16) rfl rfl rfl dL_ask_16 (hQ _ _ _ ⟨rfl, x, X, hP, rfl⟩ (Nat.le_refl _))
theorem we_ask_IA {g : Gp} {S S' : Sx} {d' : Nat} {x1 : Int32} (hd : d' + 1 ≤ 40) (h : TH g mX10_ask d' [.ref 0, .int x1] S IA S') : WR g mL_ask hL_ask [.ref 0, .int x1, .ref 562] S (fun k Y => k = 1 ∧ Y = S') := by
  refine WR_of ⟨rfl, rfl⟩ (Nat.le_of_ble_eq_true rfl) (fun sz Q hQ => ?_)
  refine J_aload_n (pc := 0) dL_ask_0 rfl ?_
  refine J_iconst (pc := 1) (v := 0) dL_ask_1 (by decide) ?_
  refine J_aload_n (pc := 2) dL_ask_2 rfl ?_
  refine J_iload_n (pc := 3) dL_ask_3 rfl ?_
  refine J_cvC (pc := 4) (N := mX10_ask) (nm := IA) (k := 3) (len := 1) rfl dL_ask_4 ml_L_60 cf_X10_ask cv_X10_ask h rfl rfl (Nat.le_of_ble_eq_true rfl) hd (by decide) (by decide) (rv_of (ci := 10) rfl rfl rfl) [] ⟨0, 9, 12, 13⟩ [] rfl (fun z hz => nomatch hz) (by decide) (by decide) cl_L13 ⟨rfl, ib_IA⟩ (Or.inl ⟨3, rfl, rfl, dL_ask_12⟩) (by decide) (fun sz' hsz => ?_)
  refine J_iconst (pc := 13) (v := 1) dL_ask_13 (by decide) ?_
  exact J_iret (pc := 14) rfl rfl rfl dL_ask_14 (hQ _ _ _ ⟨rfl, rfl⟩ hsz)
abbrev mL_best : Mt := (yL_best, cL_best, 6, some .int)
abbrev hL_best : List (Nat × Nat × Nat × Nat) := [(0, 11, 14, 31), (0, 11, 18, 13)]
set_option maxRecDepth 100000 in
theorem cfw_L_best : CFW mL_best hL_best 5 := ⟨⟨List.mem_of_getElem? (i := 1237) rfl, rfl⟩, ⟨List.mem_of_getElem? (i := 146) rfl, rfl⟩, ⟨by decide, by decide⟩, by decide, by decide⟩
set_option maxRecDepth 100000 in
theorem cs_L_best : InT (.static yL_best) := ⟨List.mem_of_getElem? (i := 1236) rfl, rfl⟩
theorem wg_best {g : Gp} {S : Sx} {d' : Nat} {x1 x2 x3 : Int32} {P : Int64 → Sx → Prop} (hd : d' + 1 ≤ 40) (h : RJ g mX10_best d' [.ref 0, .int x1, .int x2, .int x3] S P) : WR g mL_best hL_best [.ref 0, .int x1, .int x2, .int x3, .ref 562] S (fun k Y => k = 0 ∧ ∃ x X, P x X ∧ Y = sL X 0 x) := by
  refine WR_of ⟨rfl, rfl⟩ (Nat.le_of_ble_eq_true rfl) (fun sz Q hQ => ?_)
  refine J_aload (pc := 0) dL_best_0 rfl ?_
  refine J_iconst (pc := 2) (v := 0) dL_best_2 (by decide) ?_
  refine J_aload_n (pc := 3) dL_best_3 rfl ?_
  refine J_iload_n (pc := 4) dL_best_4 rfl ?_
  refine J_iload_n (pc := 5) dL_best_5 rfl ?_
  refine J_iload_n (pc := 6) dL_best_6 rfl ?_
  refine J_cvJ (pc := 7) (N := mX10_best) dL_best_7 ml_L_63 cf_X10_best cv_X10_best h rfl rfl (Nat.le_of_ble_eq_true rfl) hd (rv_of (ci := 10) rfl rfl rfl) (fun x X hP => ?_)
  refine J_lsS (pc := 10) dL_best_10 ?_
  refine J_goto (pc := 11) (tgt := 22) dL_best_11 (by decide) ?_
  refine J_iconst (pc := 22) (v := 0) dL_best_22 (by decide) ?_
  exact J_iret (pc := 23) rfl rfl rfl dL_best_23 (hQ _ _ _ ⟨rfl, x, X, hP, rfl⟩ (Nat.le_refl _))
theorem we_best_NS {g : Gp} {S S' : Sx} {d' : Nat} {x1 x2 x3 : Int32} (hd : d' + 1 ≤ 40) (h : TH g mX10_best d' [.ref 0, .int x1, .int x2, .int x3] S NS S') : WR g mL_best hL_best [.ref 0, .int x1, .int x2, .int x3, .ref 562] S (fun k Y => k = 1 ∧ Y = S') := by
  refine WR_of ⟨rfl, rfl⟩ (Nat.le_of_ble_eq_true rfl) (fun sz Q hQ => ?_)
  refine J_aload (pc := 0) dL_best_0 rfl ?_
  refine J_iconst (pc := 2) (v := 0) dL_best_2 (by decide) ?_
  refine J_aload_n (pc := 3) dL_best_3 rfl ?_
  refine J_iload_n (pc := 4) dL_best_4 rfl ?_
  refine J_iload_n (pc := 5) dL_best_5 rfl ?_
  refine J_iload_n (pc := 6) dL_best_6 rfl ?_
  refine J_cvC (pc := 7) (N := mX10_best) (nm := NS) (k := 5) (len := 2) rfl dL_best_7 ml_L_63 cf_X10_best cv_X10_best h rfl rfl (Nat.le_of_ble_eq_true rfl) hd (by decide) (by decide) (rv_of (ci := 10) rfl rfl rfl) [] ⟨0, 11, 14, 31⟩ [⟨0, 11, 18, 13⟩] rfl (fun z hz => nomatch hz) (by decide) (by decide) cl_L31 ⟨rfl, ib_NS⟩ (Or.inr ⟨rfl, dL_best_14⟩) (by decide) (fun sz' hsz => ?_)
  refine J_iconst (pc := 16) (v := 1) dL_best_16 (by decide) ?_
  exact J_iret (pc := 17) rfl rfl rfl dL_best_17 (hQ _ _ _ ⟨rfl, rfl⟩ hsz)
theorem we_best_IA {g : Gp} {S S' : Sx} {d' : Nat} {x1 x2 x3 : Int32} (hd : d' + 1 ≤ 40) (h : TH g mX10_best d' [.ref 0, .int x1, .int x2, .int x3] S IA S') : WR g mL_best hL_best [.ref 0, .int x1, .int x2, .int x3, .ref 562] S (fun k Y => k = 2 ∧ Y = S') := by
  refine WR_of ⟨rfl, rfl⟩ (Nat.le_of_ble_eq_true rfl) (fun sz Q hQ => ?_)
  refine J_aload (pc := 0) dL_best_0 rfl ?_
  refine J_iconst (pc := 2) (v := 0) dL_best_2 (by decide) ?_
  refine J_aload_n (pc := 3) dL_best_3 rfl ?_
  refine J_iload_n (pc := 4) dL_best_4 rfl ?_
  refine J_iload_n (pc := 5) dL_best_5 rfl ?_
  refine J_iload_n (pc := 6) dL_best_6 rfl ?_
  refine J_cvC (pc := 7) (N := mX10_best) (nm := IA) (k := 5) (len := 2) rfl dL_best_7 ml_L_63 cf_X10_best cv_X10_best h rfl rfl (Nat.le_of_ble_eq_true rfl) hd (by decide) (by decide) (rv_of (ci := 10) rfl rfl rfl) [⟨0, 11, 14, 31⟩] ⟨0, 11, 18, 13⟩ [] rfl (fun z hz => by rw [List.mem_singleton.mp hz]; exact Or.inr ⟨by decide, NS, cl_L31, Or.inl ⟨rfl, rfl⟩⟩) (by decide) (by decide) cl_L13 ⟨rfl, ib_IA⟩ (Or.inr ⟨rfl, dL_best_18⟩) (by decide) (fun sz' hsz => ?_)
  refine J_iconst (pc := 20) (v := 2) dL_best_20 (by decide) ?_
  exact J_iret (pc := 21) rfl rfl rfl dL_best_21 (hQ _ _ _ ⟨rfl, rfl⟩ hsz)
abbrev mL_without : Mt := (yL_without, cL_without, 6, some .int)
abbrev hL_without : List (Nat × Nat × Nat × Nat) := [(0, 11, 14, 31), (0, 11, 18, 13)]
set_option maxRecDepth 100000 in
theorem cfw_L_without : CFW mL_without hL_without 5 := ⟨⟨List.mem_of_getElem? (i := 1256) rfl, rfl⟩, ⟨List.mem_of_getElem? (i := 146) rfl, rfl⟩, ⟨by decide, by decide⟩, by decide, by decide⟩
set_option maxRecDepth 100000 in
theorem cs_L_without : InT (.static yL_without) := ⟨List.mem_of_getElem? (i := 1255) rfl, rfl⟩
theorem wg_without {g : Gp} {S : Sx} {d' : Nat} {x1 x2 x3 : Int32} {P : Int64 → Sx → Prop} (hd : d' + 1 ≤ 40) (h : RJ g mX10_without d' [.ref 0, .int x1, .int x2, .int x3] S P) : WR g mL_without hL_without [.ref 0, .int x1, .int x2, .int x3, .ref 562] S (fun k Y => k = 0 ∧ ∃ x X, P x X ∧ Y = sL X 0 x) := by
  refine WR_of ⟨rfl, rfl⟩ (Nat.le_of_ble_eq_true rfl) (fun sz Q hQ => ?_)
  refine J_aload (pc := 0) dL_without_0 rfl ?_
  refine J_iconst (pc := 2) (v := 0) dL_without_2 (by decide) ?_
  refine J_aload_n (pc := 3) dL_without_3 rfl ?_
  refine J_iload_n (pc := 4) dL_without_4 rfl ?_
  refine J_iload_n (pc := 5) dL_without_5 rfl ?_
  refine J_iload_n (pc := 6) dL_without_6 rfl ?_
  refine J_cvJ (pc := 7) (N := mX10_without) dL_without_7 ml_L_67 cf_X10_without cv_X10_without h rfl rfl (Nat.le_of_ble_eq_true rfl) hd (rv_of (ci := 10) rfl rfl rfl) (fun x X hP => ?_)
  refine J_lsS (pc := 10) dL_without_10 ?_
  refine J_goto (pc := 11) (tgt := 22) dL_without_11 (by decide) ?_
  refine J_iconst (pc := 22) (v := 0) dL_without_22 (by decide) ?_
  exact J_iret (pc := 23) rfl rfl rfl dL_without_23 (hQ _ _ _ ⟨rfl, x, X, hP, rfl⟩ (Nat.le_refl _))
theorem we_without_NS {g : Gp} {S S' : Sx} {d' : Nat} {x1 x2 x3 : Int32} (hd : d' + 1 ≤ 40) (h : TH g mX10_without d' [.ref 0, .int x1, .int x2, .int x3] S NS S') : WR g mL_without hL_without [.ref 0, .int x1, .int x2, .int x3, .ref 562] S (fun k Y => k = 1 ∧ Y = S') := by
  refine WR_of ⟨rfl, rfl⟩ (Nat.le_of_ble_eq_true rfl) (fun sz Q hQ => ?_)
  refine J_aload (pc := 0) dL_without_0 rfl ?_
  refine J_iconst (pc := 2) (v := 0) dL_without_2 (by decide) ?_
  refine J_aload_n (pc := 3) dL_without_3 rfl ?_
  refine J_iload_n (pc := 4) dL_without_4 rfl ?_
  refine J_iload_n (pc := 5) dL_without_5 rfl ?_
  refine J_iload_n (pc := 6) dL_without_6 rfl ?_
  refine J_cvC (pc := 7) (N := mX10_without) (nm := NS) (k := 5) (len := 2) rfl dL_without_7 ml_L_67 cf_X10_without cv_X10_without h rfl rfl (Nat.le_of_ble_eq_true rfl) hd (by decide) (by decide) (rv_of (ci := 10) rfl rfl rfl) [] ⟨0, 11, 14, 31⟩ [⟨0, 11, 18, 13⟩] rfl (fun z hz => nomatch hz) (by decide) (by decide) cl_L31 ⟨rfl, ib_NS⟩ (Or.inr ⟨rfl, dL_without_14⟩) (by decide) (fun sz' hsz => ?_)
  refine J_iconst (pc := 16) (v := 1) dL_without_16 (by decide) ?_
  exact J_iret (pc := 17) rfl rfl rfl dL_without_17 (hQ _ _ _ ⟨rfl, rfl⟩ hsz)
theorem we_without_IA {g : Gp} {S S' : Sx} {d' : Nat} {x1 x2 x3 : Int32} (hd : d' + 1 ≤ 40) (h : TH g mX10_without d' [.ref 0, .int x1, .int x2, .int x3] S IA S') : WR g mL_without hL_without [.ref 0, .int x1, .int x2, .int x3, .ref 562] S (fun k Y => k = 2 ∧ Y = S') := by
  refine WR_of ⟨rfl, rfl⟩ (Nat.le_of_ble_eq_true rfl) (fun sz Q hQ => ?_)
  refine J_aload (pc := 0) dL_without_0 rfl ?_
  refine J_iconst (pc := 2) (v := 0) dL_without_2 (by decide) ?_
  refine J_aload_n (pc := 3) dL_without_3 rfl ?_
  refine J_iload_n (pc := 4) dL_without_4 rfl ?_
  refine J_iload_n (pc := 5) dL_without_5 rfl ?_
  refine J_iload_n (pc := 6) dL_without_6 rfl ?_
  refine J_cvC (pc := 7) (N := mX10_without) (nm := IA) (k := 5) (len := 2) rfl dL_without_7 ml_L_67 cf_X10_without cv_X10_without h rfl rfl (Nat.le_of_ble_eq_true rfl) hd (by decide) (by decide) (rv_of (ci := 10) rfl rfl rfl) [⟨0, 11, 14, 31⟩] ⟨0, 11, 18, 13⟩ [] rfl (fun z hz => by rw [List.mem_singleton.mp hz]; exact Or.inr ⟨by decide, NS, cl_L31, Or.inl ⟨rfl, rfl⟩⟩) (by decide) (by decide) cl_L13 ⟨rfl, ib_IA⟩ (Or.inr ⟨rfl, dL_without_18⟩) (by decide) (fun sz' hsz => ?_)
  refine J_iconst (pc := 20) (v := 2) dL_without_20 (by decide) ?_
  exact J_iret (pc := 21) rfl rfl rfl dL_without_21 (hQ _ _ _ ⟨rfl, rfl⟩ hsz)
abbrev mL_ring : Mt := (yL_ring, cL_ring, 4, some .int)
abbrev hL_ring : List (Nat × Nat × Nat × Nat) := [(0, 9, 12, 31)]
set_option maxRecDepth 100000 in
theorem cfw_L_ring : CFW mL_ring hL_ring 3 := ⟨⟨List.mem_of_getElem? (i := 1263) rfl, rfl⟩, ⟨List.mem_of_getElem? (i := 146) rfl, rfl⟩, ⟨by decide, by decide⟩, by decide, by decide⟩
set_option maxRecDepth 100000 in
theorem cs_L_ring : InT (.static yL_ring) := ⟨List.mem_of_getElem? (i := 1262) rfl, rfl⟩
theorem wg_ring {g : Gp} {S : Sx} {d' : Nat} {x1 : Int32} {P : Int32 → Sx → Prop} (hd : d' + 1 ≤ 40) (h : RI g mX10_ring d' [.ref 0, .int x1] S P) : WR g mL_ring hL_ring [.ref 0, .int x1, .ref 562] S (fun k Y => k = 0 ∧ ∃ x X, P x X ∧ Y = sL X 0 x.toInt64) := by
  refine WR_of ⟨rfl, rfl⟩ (Nat.le_of_ble_eq_true rfl) (fun sz Q hQ => ?_)
  refine J_aload_n (pc := 0) dL_ring_0 rfl ?_
  refine J_iconst (pc := 1) (v := 0) dL_ring_1 (by decide) ?_
  refine J_aload_n (pc := 2) dL_ring_2 rfl ?_
  refine J_iload_n (pc := 3) dL_ring_3 rfl ?_
  refine J_cvI (pc := 4) (N := mX10_ring) dL_ring_4 ml_L_70 cf_X10_ring cv_X10_ring h rfl rfl (Nat.le_of_ble_eq_true rfl) hd (rv_of (ci := 10) rfl rfl rfl) (fun x X hP => ?_)
  refine J_i2l (pc := 7) dL_ring_7 ?_
  refine J_lsS (pc := 8) dL_ring_8 ?_
  refine J_goto (pc := 9) (tgt := 15) dL_ring_9 (by decide) ?_
  refine J_iconst (pc := 15) (v := 0) dL_ring_15 (by decide) ?_
  exact J_iret (pc := 16) rfl rfl rfl dL_ring_16 (hQ _ _ _ ⟨rfl, x, X, hP, rfl⟩ (Nat.le_refl _))
theorem we_ring_NS {g : Gp} {S S' : Sx} {d' : Nat} {x1 : Int32} (hd : d' + 1 ≤ 40) (h : TH g mX10_ring d' [.ref 0, .int x1] S NS S') : WR g mL_ring hL_ring [.ref 0, .int x1, .ref 562] S (fun k Y => k = 1 ∧ Y = S') := by
  refine WR_of ⟨rfl, rfl⟩ (Nat.le_of_ble_eq_true rfl) (fun sz Q hQ => ?_)
  refine J_aload_n (pc := 0) dL_ring_0 rfl ?_
  refine J_iconst (pc := 1) (v := 0) dL_ring_1 (by decide) ?_
  refine J_aload_n (pc := 2) dL_ring_2 rfl ?_
  refine J_iload_n (pc := 3) dL_ring_3 rfl ?_
  refine J_cvC (pc := 4) (N := mX10_ring) (nm := NS) (k := 3) (len := 1) rfl dL_ring_4 ml_L_70 cf_X10_ring cv_X10_ring h rfl rfl (Nat.le_of_ble_eq_true rfl) hd (by decide) (by decide) (rv_of (ci := 10) rfl rfl rfl) [] ⟨0, 9, 12, 31⟩ [] rfl (fun z hz => nomatch hz) (by decide) (by decide) cl_L31 ⟨rfl, ib_NS⟩ (Or.inl ⟨3, rfl, rfl, dL_ring_12⟩) (by decide) (fun sz' hsz => ?_)
  refine J_iconst (pc := 13) (v := 1) dL_ring_13 (by decide) ?_
  exact J_iret (pc := 14) rfl rfl rfl dL_ring_14 (hQ _ _ _ ⟨rfl, rfl⟩ hsz)
abbrev mL_follows : Mt := (yL_follows, cL_follows, 5, some .int)
abbrev hL_follows : List (Nat × Nat × Nat × Nat) := [(0, 10, 13, 31), (0, 10, 17, 13)]
set_option maxRecDepth 100000 in
theorem cfw_L_follows : CFW mL_follows hL_follows 4 := ⟨⟨List.mem_of_getElem? (i := 1274) rfl, rfl⟩, ⟨List.mem_of_getElem? (i := 146) rfl, rfl⟩, ⟨by decide, by decide⟩, by decide, by decide⟩
set_option maxRecDepth 100000 in
theorem cs_L_follows : InT (.static yL_follows) := ⟨List.mem_of_getElem? (i := 1273) rfl, rfl⟩
theorem wg_follows {g : Gp} {S : Sx} {d' : Nat} {x1 x2 : Int32} {P : Int32 → Sx → Prop} (hd : d' + 1 ≤ 40) (h : RI g mX10_follows d' [.ref 0, .int x1, .int x2] S P) : WR g mL_follows hL_follows [.ref 0, .int x1, .int x2, .ref 562] S (fun k Y => k = 0 ∧ ∃ x X, P x X ∧ Y = sL X 0 x.toInt64) := by
  refine WR_of ⟨rfl, rfl⟩ (Nat.le_of_ble_eq_true rfl) (fun sz Q hQ => ?_)
  refine J_aload_n (pc := 0) dL_follows_0 rfl ?_
  refine J_iconst (pc := 1) (v := 0) dL_follows_1 (by decide) ?_
  refine J_aload_n (pc := 2) dL_follows_2 rfl ?_
  refine J_iload_n (pc := 3) dL_follows_3 rfl ?_
  refine J_iload_n (pc := 4) dL_follows_4 rfl ?_
  refine J_cvI (pc := 5) (N := mX10_follows) dL_follows_5 ml_L_73 cf_X10_follows cv_X10_follows h rfl rfl (Nat.le_of_ble_eq_true rfl) hd (rv_of (ci := 10) rfl rfl rfl) (fun x X hP => ?_)
  refine J_i2l (pc := 8) dL_follows_8 ?_
  refine J_lsS (pc := 9) dL_follows_9 ?_
  refine J_goto (pc := 10) (tgt := 21) dL_follows_10 (by decide) ?_
  refine J_iconst (pc := 21) (v := 0) dL_follows_21 (by decide) ?_
  exact J_iret (pc := 22) rfl rfl rfl dL_follows_22 (hQ _ _ _ ⟨rfl, x, X, hP, rfl⟩ (Nat.le_refl _))
theorem we_follows_NS {g : Gp} {S S' : Sx} {d' : Nat} {x1 x2 : Int32} (hd : d' + 1 ≤ 40) (h : TH g mX10_follows d' [.ref 0, .int x1, .int x2] S NS S') : WR g mL_follows hL_follows [.ref 0, .int x1, .int x2, .ref 562] S (fun k Y => k = 1 ∧ Y = S') := by
  refine WR_of ⟨rfl, rfl⟩ (Nat.le_of_ble_eq_true rfl) (fun sz Q hQ => ?_)
  refine J_aload_n (pc := 0) dL_follows_0 rfl ?_
  refine J_iconst (pc := 1) (v := 0) dL_follows_1 (by decide) ?_
  refine J_aload_n (pc := 2) dL_follows_2 rfl ?_
  refine J_iload_n (pc := 3) dL_follows_3 rfl ?_
  refine J_iload_n (pc := 4) dL_follows_4 rfl ?_
  refine J_cvC (pc := 5) (N := mX10_follows) (nm := NS) (k := 4) (len := 2) rfl dL_follows_5 ml_L_73 cf_X10_follows cv_X10_follows h rfl rfl (Nat.le_of_ble_eq_true rfl) hd (by decide) (by decide) (rv_of (ci := 10) rfl rfl rfl) [] ⟨0, 10, 13, 31⟩ [⟨0, 10, 17, 13⟩] rfl (fun z hz => nomatch hz) (by decide) (by decide) cl_L31 ⟨rfl, ib_NS⟩ (Or.inr ⟨rfl, dL_follows_13⟩) (by decide) (fun sz' hsz => ?_)
  refine J_iconst (pc := 15) (v := 1) dL_follows_15 (by decide) ?_
  exact J_iret (pc := 16) rfl rfl rfl dL_follows_16 (hQ _ _ _ ⟨rfl, rfl⟩ hsz)
theorem we_follows_IA {g : Gp} {S S' : Sx} {d' : Nat} {x1 x2 : Int32} (hd : d' + 1 ≤ 40) (h : TH g mX10_follows d' [.ref 0, .int x1, .int x2] S IA S') : WR g mL_follows hL_follows [.ref 0, .int x1, .int x2, .ref 562] S (fun k Y => k = 2 ∧ Y = S') := by
  refine WR_of ⟨rfl, rfl⟩ (Nat.le_of_ble_eq_true rfl) (fun sz Q hQ => ?_)
  refine J_aload_n (pc := 0) dL_follows_0 rfl ?_
  refine J_iconst (pc := 1) (v := 0) dL_follows_1 (by decide) ?_
  refine J_aload_n (pc := 2) dL_follows_2 rfl ?_
  refine J_iload_n (pc := 3) dL_follows_3 rfl ?_
  refine J_iload_n (pc := 4) dL_follows_4 rfl ?_
  refine J_cvC (pc := 5) (N := mX10_follows) (nm := IA) (k := 4) (len := 2) rfl dL_follows_5 ml_L_73 cf_X10_follows cv_X10_follows h rfl rfl (Nat.le_of_ble_eq_true rfl) hd (by decide) (by decide) (rv_of (ci := 10) rfl rfl rfl) [⟨0, 10, 13, 31⟩] ⟨0, 10, 17, 13⟩ [] rfl (fun z hz => by rw [List.mem_singleton.mp hz]; exact Or.inr ⟨by decide, NS, cl_L31, Or.inl ⟨rfl, rfl⟩⟩) (by decide) (by decide) cl_L13 ⟨rfl, ib_IA⟩ (Or.inr ⟨rfl, dL_follows_17⟩) (by decide) (fun sz' hsz => ?_)
  refine J_iconst (pc := 19) (v := 2) dL_follows_19 (by decide) ?_
  exact J_iret (pc := 20) rfl rfl rfl dL_follows_20 (hQ _ _ _ ⟨rfl, rfl⟩ hsz)
abbrev mL_tempted : Mt := (yL_tempted, cL_tempted, 6, some .int)
abbrev hL_tempted : List (Nat × Nat × Nat × Nat) := [(0, 12, 15, 13)]
set_option maxRecDepth 100000 in
theorem cfw_L_tempted : CFW mL_tempted hL_tempted 5 := ⟨⟨List.mem_of_getElem? (i := 1286) rfl, rfl⟩, ⟨List.mem_of_getElem? (i := 146) rfl, rfl⟩, ⟨by decide, by decide⟩, by decide, by decide⟩
set_option maxRecDepth 100000 in
theorem cs_L_tempted : InT (.static yL_tempted) := ⟨List.mem_of_getElem? (i := 1285) rfl, rfl⟩
theorem wg_tempted {g : Gp} {S : Sx} {d' : Nat} {x1 x2 x3 : Int32} {P : Int32 → Sx → Prop} (hd : d' + 1 ≤ 40) (h : RI g mX10_tempted d' [.ref 0, .int x1, .int x2, .int x3] S P) : WR g mL_tempted hL_tempted [.ref 0, .int x1, .int x2, .int x3, .ref 562] S (fun k Y => k = 0 ∧ ∃ x X, P x X ∧ Y = sL X 0 x.toInt64) := by
  refine WR_of ⟨rfl, rfl⟩ (Nat.le_of_ble_eq_true rfl) (fun sz Q hQ => ?_)
  refine J_aload (pc := 0) dL_tempted_0 rfl ?_
  refine J_iconst (pc := 2) (v := 0) dL_tempted_2 (by decide) ?_
  refine J_aload_n (pc := 3) dL_tempted_3 rfl ?_
  refine J_iload_n (pc := 4) dL_tempted_4 rfl ?_
  refine J_iload_n (pc := 5) dL_tempted_5 rfl ?_
  refine J_iload_n (pc := 6) dL_tempted_6 rfl ?_
  refine J_cvI (pc := 7) (N := mX10_tempted) dL_tempted_7 ml_L_76 cf_X10_tempted cv_X10_tempted h rfl rfl (Nat.le_of_ble_eq_true rfl) hd (rv_of (ci := 10) rfl rfl rfl) (fun x X hP => ?_)
  refine J_i2l (pc := 10) dL_tempted_10 ?_
  refine J_lsS (pc := 11) dL_tempted_11 ?_
  refine J_goto (pc := 12) (tgt := 19) dL_tempted_12 (by decide) ?_
  refine J_iconst (pc := 19) (v := 0) dL_tempted_19 (by decide) ?_
  exact J_iret (pc := 20) rfl rfl rfl dL_tempted_20 (hQ _ _ _ ⟨rfl, x, X, hP, rfl⟩ (Nat.le_refl _))
theorem we_tempted_IA {g : Gp} {S S' : Sx} {d' : Nat} {x1 x2 x3 : Int32} (hd : d' + 1 ≤ 40) (h : TH g mX10_tempted d' [.ref 0, .int x1, .int x2, .int x3] S IA S') : WR g mL_tempted hL_tempted [.ref 0, .int x1, .int x2, .int x3, .ref 562] S (fun k Y => k = 1 ∧ Y = S') := by
  refine WR_of ⟨rfl, rfl⟩ (Nat.le_of_ble_eq_true rfl) (fun sz Q hQ => ?_)
  refine J_aload (pc := 0) dL_tempted_0 rfl ?_
  refine J_iconst (pc := 2) (v := 0) dL_tempted_2 (by decide) ?_
  refine J_aload_n (pc := 3) dL_tempted_3 rfl ?_
  refine J_iload_n (pc := 4) dL_tempted_4 rfl ?_
  refine J_iload_n (pc := 5) dL_tempted_5 rfl ?_
  refine J_iload_n (pc := 6) dL_tempted_6 rfl ?_
  refine J_cvC (pc := 7) (N := mX10_tempted) (nm := IA) (k := 5) (len := 2) rfl dL_tempted_7 ml_L_76 cf_X10_tempted cv_X10_tempted h rfl rfl (Nat.le_of_ble_eq_true rfl) hd (by decide) (by decide) (rv_of (ci := 10) rfl rfl rfl) [] ⟨0, 12, 15, 13⟩ [] rfl (fun z hz => nomatch hz) (by decide) (by decide) cl_L13 ⟨rfl, ib_IA⟩ (Or.inr ⟨rfl, dL_tempted_15⟩) (by decide) (fun sz' hsz => ?_)
  refine J_iconst (pc := 17) (v := 1) dL_tempted_17 (by decide) ?_
  exact J_iret (pc := 18) rfl rfl rfl dL_tempted_18 (hQ _ _ _ ⟨rfl, rfl⟩ hsz)
abbrev mL_alms : Mt := (yL_alms, cL_alms, 6, some .int)
abbrev hL_alms : List (Nat × Nat × Nat × Nat) := [(0, 12, 15, 31), (0, 12, 19, 13)]
set_option maxRecDepth 100000 in
theorem cfw_L_alms : CFW mL_alms hL_alms 5 := ⟨⟨List.mem_of_getElem? (i := 1299) rfl, rfl⟩, ⟨List.mem_of_getElem? (i := 146) rfl, rfl⟩, ⟨by decide, by decide⟩, by decide, by decide⟩
set_option maxRecDepth 100000 in
theorem cs_L_alms : InT (.static yL_alms) := ⟨List.mem_of_getElem? (i := 1298) rfl, rfl⟩
theorem wg_alms {g : Gp} {S : Sx} {d' : Nat} {x1 x2 x3 : Int32} {P : Int32 → Sx → Prop} (hd : d' + 1 ≤ 40) (h : RI g mX10_alms d' [.ref 0, .int x1, .int x2, .int x3] S P) : WR g mL_alms hL_alms [.ref 0, .int x1, .int x2, .int x3, .ref 562] S (fun k Y => k = 0 ∧ ∃ x X, P x X ∧ Y = sL X 0 x.toInt64) := by
  refine WR_of ⟨rfl, rfl⟩ (Nat.le_of_ble_eq_true rfl) (fun sz Q hQ => ?_)
  refine J_aload (pc := 0) dL_alms_0 rfl ?_
  refine J_iconst (pc := 2) (v := 0) dL_alms_2 (by decide) ?_
  refine J_aload_n (pc := 3) dL_alms_3 rfl ?_
  refine J_iload_n (pc := 4) dL_alms_4 rfl ?_
  refine J_iload_n (pc := 5) dL_alms_5 rfl ?_
  refine J_iload_n (pc := 6) dL_alms_6 rfl ?_
  refine J_cvI (pc := 7) (N := mX10_alms) dL_alms_7 ml_L_79 cf_X10_alms cv_X10_alms h rfl rfl (Nat.le_of_ble_eq_true rfl) hd (rv_of (ci := 10) rfl rfl rfl) (fun x X hP => ?_)
  refine J_i2l (pc := 10) dL_alms_10 ?_
  refine J_lsS (pc := 11) dL_alms_11 ?_
  refine J_goto (pc := 12) (tgt := 23) dL_alms_12 (by decide) ?_
  refine J_iconst (pc := 23) (v := 0) dL_alms_23 (by decide) ?_
  exact J_iret (pc := 24) rfl rfl rfl dL_alms_24 (hQ _ _ _ ⟨rfl, x, X, hP, rfl⟩ (Nat.le_refl _))
theorem we_alms_NS {g : Gp} {S S' : Sx} {d' : Nat} {x1 x2 x3 : Int32} (hd : d' + 1 ≤ 40) (h : TH g mX10_alms d' [.ref 0, .int x1, .int x2, .int x3] S NS S') : WR g mL_alms hL_alms [.ref 0, .int x1, .int x2, .int x3, .ref 562] S (fun k Y => k = 1 ∧ Y = S') := by
  refine WR_of ⟨rfl, rfl⟩ (Nat.le_of_ble_eq_true rfl) (fun sz Q hQ => ?_)
  refine J_aload (pc := 0) dL_alms_0 rfl ?_
  refine J_iconst (pc := 2) (v := 0) dL_alms_2 (by decide) ?_
  refine J_aload_n (pc := 3) dL_alms_3 rfl ?_
  refine J_iload_n (pc := 4) dL_alms_4 rfl ?_
  refine J_iload_n (pc := 5) dL_alms_5 rfl ?_
  refine J_iload_n (pc := 6) dL_alms_6 rfl ?_
  refine J_cvC (pc := 7) (N := mX10_alms) (nm := NS) (k := 5) (len := 2) rfl dL_alms_7 ml_L_79 cf_X10_alms cv_X10_alms h rfl rfl (Nat.le_of_ble_eq_true rfl) hd (by decide) (by decide) (rv_of (ci := 10) rfl rfl rfl) [] ⟨0, 12, 15, 31⟩ [⟨0, 12, 19, 13⟩] rfl (fun z hz => nomatch hz) (by decide) (by decide) cl_L31 ⟨rfl, ib_NS⟩ (Or.inr ⟨rfl, dL_alms_15⟩) (by decide) (fun sz' hsz => ?_)
  refine J_iconst (pc := 17) (v := 1) dL_alms_17 (by decide) ?_
  exact J_iret (pc := 18) rfl rfl rfl dL_alms_18 (hQ _ _ _ ⟨rfl, rfl⟩ hsz)
theorem we_alms_IA {g : Gp} {S S' : Sx} {d' : Nat} {x1 x2 x3 : Int32} (hd : d' + 1 ≤ 40) (h : TH g mX10_alms d' [.ref 0, .int x1, .int x2, .int x3] S IA S') : WR g mL_alms hL_alms [.ref 0, .int x1, .int x2, .int x3, .ref 562] S (fun k Y => k = 2 ∧ Y = S') := by
  refine WR_of ⟨rfl, rfl⟩ (Nat.le_of_ble_eq_true rfl) (fun sz Q hQ => ?_)
  refine J_aload (pc := 0) dL_alms_0 rfl ?_
  refine J_iconst (pc := 2) (v := 0) dL_alms_2 (by decide) ?_
  refine J_aload_n (pc := 3) dL_alms_3 rfl ?_
  refine J_iload_n (pc := 4) dL_alms_4 rfl ?_
  refine J_iload_n (pc := 5) dL_alms_5 rfl ?_
  refine J_iload_n (pc := 6) dL_alms_6 rfl ?_
  refine J_cvC (pc := 7) (N := mX10_alms) (nm := IA) (k := 5) (len := 2) rfl dL_alms_7 ml_L_79 cf_X10_alms cv_X10_alms h rfl rfl (Nat.le_of_ble_eq_true rfl) hd (by decide) (by decide) (rv_of (ci := 10) rfl rfl rfl) [⟨0, 12, 15, 31⟩] ⟨0, 12, 19, 13⟩ [] rfl (fun z hz => by rw [List.mem_singleton.mp hz]; exact Or.inr ⟨by decide, NS, cl_L31, Or.inl ⟨rfl, rfl⟩⟩) (by decide) (by decide) cl_L13 ⟨rfl, ib_IA⟩ (Or.inr ⟨rfl, dL_alms_19⟩) (by decide) (fun sz' hsz => ?_)
  refine J_iconst (pc := 21) (v := 2) dL_alms_21 (by decide) ?_
  exact J_iret (pc := 22) rfl rfl rfl dL_alms_22 (hQ _ _ _ ⟨rfl, rfl⟩ hsz)
abbrev mL_strongest : Mt := (yL_strongest, cL_strongest, 4, some .int)
abbrev hL_strongest : List (Nat × Nat × Nat × Nat) := [(0, 9, 12, 13)]
set_option maxRecDepth 100000 in
theorem cfw_L_strongest : CFW mL_strongest hL_strongest 3 := ⟨⟨List.mem_of_getElem? (i := 1310) rfl, rfl⟩, ⟨List.mem_of_getElem? (i := 146) rfl, rfl⟩, ⟨by decide, by decide⟩, by decide, by decide⟩
set_option maxRecDepth 100000 in
theorem cs_L_strongest : InT (.static yL_strongest) := ⟨List.mem_of_getElem? (i := 1309) rfl, rfl⟩
theorem wg_strongest {g : Gp} {S : Sx} {d' : Nat} {x1 : Int32} {P : Int32 → Sx → Prop} (hd : d' + 1 ≤ 40) (h : RI g mX10_strongest d' [.ref 0, .int x1] S P) : WR g mL_strongest hL_strongest [.ref 0, .int x1, .ref 562] S (fun k Y => k = 0 ∧ ∃ x X, P x X ∧ Y = sL X 0 x.toInt64) := by
  refine WR_of ⟨rfl, rfl⟩ (Nat.le_of_ble_eq_true rfl) (fun sz Q hQ => ?_)
  refine J_aload_n (pc := 0) dL_strongest_0 rfl ?_
  refine J_iconst (pc := 1) (v := 0) dL_strongest_1 (by decide) ?_
  refine J_aload_n (pc := 2) dL_strongest_2 rfl ?_
  refine J_iload_n (pc := 3) dL_strongest_3 rfl ?_
  refine J_cvI (pc := 4) (N := mX10_strongest) dL_strongest_4 ml_L_82 cf_X10_strongest cv_X10_strongest h rfl rfl (Nat.le_of_ble_eq_true rfl) hd (rv_of (ci := 10) rfl rfl rfl) (fun x X hP => ?_)
  refine J_i2l (pc := 7) dL_strongest_7 ?_
  refine J_lsS (pc := 8) dL_strongest_8 ?_
  refine J_goto (pc := 9) (tgt := 15) dL_strongest_9 (by decide) ?_
  refine J_iconst (pc := 15) (v := 0) dL_strongest_15 (by decide) ?_
  exact J_iret (pc := 16) rfl rfl rfl dL_strongest_16 (hQ _ _ _ ⟨rfl, x, X, hP, rfl⟩ (Nat.le_refl _))
theorem we_strongest_IA {g : Gp} {S S' : Sx} {d' : Nat} {x1 : Int32} (hd : d' + 1 ≤ 40) (h : TH g mX10_strongest d' [.ref 0, .int x1] S IA S') : WR g mL_strongest hL_strongest [.ref 0, .int x1, .ref 562] S (fun k Y => k = 1 ∧ Y = S') := by
  refine WR_of ⟨rfl, rfl⟩ (Nat.le_of_ble_eq_true rfl) (fun sz Q hQ => ?_)
  refine J_aload_n (pc := 0) dL_strongest_0 rfl ?_
  refine J_iconst (pc := 1) (v := 0) dL_strongest_1 (by decide) ?_
  refine J_aload_n (pc := 2) dL_strongest_2 rfl ?_
  refine J_iload_n (pc := 3) dL_strongest_3 rfl ?_
  refine J_cvC (pc := 4) (N := mX10_strongest) (nm := IA) (k := 3) (len := 1) rfl dL_strongest_4 ml_L_82 cf_X10_strongest cv_X10_strongest h rfl rfl (Nat.le_of_ble_eq_true rfl) hd (by decide) (by decide) (rv_of (ci := 10) rfl rfl rfl) [] ⟨0, 9, 12, 13⟩ [] rfl (fun z hz => nomatch hz) (by decide) (by decide) cl_L13 ⟨rfl, ib_IA⟩ (Or.inl ⟨3, rfl, rfl, dL_strongest_12⟩) (by decide) (fun sz' hsz => ?_)
  refine J_iconst (pc := 13) (v := 1) dL_strongest_13 (by decide) ?_
  exact J_iret (pc := 14) rfl rfl rfl dL_strongest_14 (hQ _ _ _ ⟨rfl, rfl⟩ hsz)
abbrev mL_hopeless : Mt := (yL_hopeless, cL_hopeless, 4, some .int)
abbrev hL_hopeless : List (Nat × Nat × Nat × Nat) := [(0, 9, 12, 13)]
set_option maxRecDepth 100000 in
theorem cfw_L_hopeless : CFW mL_hopeless hL_hopeless 3 := ⟨⟨List.mem_of_getElem? (i := 1317) rfl, rfl⟩, ⟨List.mem_of_getElem? (i := 146) rfl, rfl⟩, ⟨by decide, by decide⟩, by decide, by decide⟩
set_option maxRecDepth 100000 in
theorem cs_L_hopeless : InT (.static yL_hopeless) := ⟨List.mem_of_getElem? (i := 1316) rfl, rfl⟩
theorem wg_hopeless {g : Gp} {S : Sx} {d' : Nat} {x1 : Int32} {P : Int32 → Sx → Prop} (hd : d' + 1 ≤ 40) (h : RI g mX10_hopeless d' [.ref 0, .int x1] S P) : WR g mL_hopeless hL_hopeless [.ref 0, .int x1, .ref 562] S (fun k Y => k = 0 ∧ ∃ x X, P x X ∧ Y = sL X 0 x.toInt64) := by
  refine WR_of ⟨rfl, rfl⟩ (Nat.le_of_ble_eq_true rfl) (fun sz Q hQ => ?_)
  refine J_aload_n (pc := 0) dL_hopeless_0 rfl ?_
  refine J_iconst (pc := 1) (v := 0) dL_hopeless_1 (by decide) ?_
  refine J_aload_n (pc := 2) dL_hopeless_2 rfl ?_
  refine J_iload_n (pc := 3) dL_hopeless_3 rfl ?_
  refine J_cvI (pc := 4) (N := mX10_hopeless) dL_hopeless_4 ml_L_85 cf_X10_hopeless cv_X10_hopeless h rfl rfl (Nat.le_of_ble_eq_true rfl) hd (rv_of (ci := 10) rfl rfl rfl) (fun x X hP => ?_)
  refine J_i2l (pc := 7) dL_hopeless_7 ?_
  refine J_lsS (pc := 8) dL_hopeless_8 ?_
  refine J_goto (pc := 9) (tgt := 15) dL_hopeless_9 (by decide) ?_
  refine J_iconst (pc := 15) (v := 0) dL_hopeless_15 (by decide) ?_
  exact J_iret (pc := 16) rfl rfl rfl dL_hopeless_16 (hQ _ _ _ ⟨rfl, x, X, hP, rfl⟩ (Nat.le_refl _))
theorem we_hopeless_IA {g : Gp} {S S' : Sx} {d' : Nat} {x1 : Int32} (hd : d' + 1 ≤ 40) (h : TH g mX10_hopeless d' [.ref 0, .int x1] S IA S') : WR g mL_hopeless hL_hopeless [.ref 0, .int x1, .ref 562] S (fun k Y => k = 1 ∧ Y = S') := by
  refine WR_of ⟨rfl, rfl⟩ (Nat.le_of_ble_eq_true rfl) (fun sz Q hQ => ?_)
  refine J_aload_n (pc := 0) dL_hopeless_0 rfl ?_
  refine J_iconst (pc := 1) (v := 0) dL_hopeless_1 (by decide) ?_
  refine J_aload_n (pc := 2) dL_hopeless_2 rfl ?_
  refine J_iload_n (pc := 3) dL_hopeless_3 rfl ?_
  refine J_cvC (pc := 4) (N := mX10_hopeless) (nm := IA) (k := 3) (len := 1) rfl dL_hopeless_4 ml_L_85 cf_X10_hopeless cv_X10_hopeless h rfl rfl (Nat.le_of_ble_eq_true rfl) hd (by decide) (by decide) (rv_of (ci := 10) rfl rfl rfl) [] ⟨0, 9, 12, 13⟩ [] rfl (fun z hz => nomatch hz) (by decide) (by decide) cl_L13 ⟨rfl, ib_IA⟩ (Or.inl ⟨3, rfl, rfl, dL_hopeless_12⟩) (by decide) (fun sz' hsz => ?_)
  refine J_iconst (pc := 13) (v := 1) dL_hopeless_13 (by decide) ?_
  exact J_iret (pc := 14) rfl rfl rfl dL_hopeless_14 (hQ _ _ _ ⟨rfl, rfl⟩ hsz)
abbrev mL_eldest : Mt := (yL_eldest, cL_eldest, 4, some .int)
abbrev hL_eldest : List (Nat × Nat × Nat × Nat) := [(0, 9, 12, 13)]
set_option maxRecDepth 100000 in
theorem cfw_L_eldest : CFW mL_eldest hL_eldest 3 := ⟨⟨List.mem_of_getElem? (i := 1324) rfl, rfl⟩, ⟨List.mem_of_getElem? (i := 146) rfl, rfl⟩, ⟨by decide, by decide⟩, by decide, by decide⟩
set_option maxRecDepth 100000 in
theorem cs_L_eldest : InT (.static yL_eldest) := ⟨List.mem_of_getElem? (i := 1323) rfl, rfl⟩
theorem wg_eldest {g : Gp} {S : Sx} {d' : Nat} {x1 : Int32} {P : Int32 → Sx → Prop} (hd : d' + 1 ≤ 40) (h : RI g mX10_eldest d' [.ref 0, .int x1] S P) : WR g mL_eldest hL_eldest [.ref 0, .int x1, .ref 562] S (fun k Y => k = 0 ∧ ∃ x X, P x X ∧ Y = sL X 0 x.toInt64) := by
  refine WR_of ⟨rfl, rfl⟩ (Nat.le_of_ble_eq_true rfl) (fun sz Q hQ => ?_)
  refine J_aload_n (pc := 0) dL_eldest_0 rfl ?_
  refine J_iconst (pc := 1) (v := 0) dL_eldest_1 (by decide) ?_
  refine J_aload_n (pc := 2) dL_eldest_2 rfl ?_
  refine J_iload_n (pc := 3) dL_eldest_3 rfl ?_
  refine J_cvI (pc := 4) (N := mX10_eldest) dL_eldest_4 ml_L_88 cf_X10_eldest cv_X10_eldest h rfl rfl (Nat.le_of_ble_eq_true rfl) hd (rv_of (ci := 10) rfl rfl rfl) (fun x X hP => ?_)
  refine J_i2l (pc := 7) dL_eldest_7 ?_
  refine J_lsS (pc := 8) dL_eldest_8 ?_
  refine J_goto (pc := 9) (tgt := 15) dL_eldest_9 (by decide) ?_
  refine J_iconst (pc := 15) (v := 0) dL_eldest_15 (by decide) ?_
  exact J_iret (pc := 16) rfl rfl rfl dL_eldest_16 (hQ _ _ _ ⟨rfl, x, X, hP, rfl⟩ (Nat.le_refl _))
theorem we_eldest_IA {g : Gp} {S S' : Sx} {d' : Nat} {x1 : Int32} (hd : d' + 1 ≤ 40) (h : TH g mX10_eldest d' [.ref 0, .int x1] S IA S') : WR g mL_eldest hL_eldest [.ref 0, .int x1, .ref 562] S (fun k Y => k = 1 ∧ Y = S') := by
  refine WR_of ⟨rfl, rfl⟩ (Nat.le_of_ble_eq_true rfl) (fun sz Q hQ => ?_)
  refine J_aload_n (pc := 0) dL_eldest_0 rfl ?_
  refine J_iconst (pc := 1) (v := 0) dL_eldest_1 (by decide) ?_
  refine J_aload_n (pc := 2) dL_eldest_2 rfl ?_
  refine J_iload_n (pc := 3) dL_eldest_3 rfl ?_
  refine J_cvC (pc := 4) (N := mX10_eldest) (nm := IA) (k := 3) (len := 1) rfl dL_eldest_4 ml_L_88 cf_X10_eldest cv_X10_eldest h rfl rfl (Nat.le_of_ble_eq_true rfl) hd (by decide) (by decide) (rv_of (ci := 10) rfl rfl rfl) [] ⟨0, 9, 12, 13⟩ [] rfl (fun z hz => nomatch hz) (by decide) (by decide) cl_L13 ⟨rfl, ib_IA⟩ (Or.inl ⟨3, rfl, rfl, dL_eldest_12⟩) (by decide) (fun sz' hsz => ?_)
  refine J_iconst (pc := 13) (v := 1) dL_eldest_13 (by decide) ?_
  exact J_iret (pc := 14) rfl rfl rfl dL_eldest_14 (hQ _ _ _ ⟨rfl, rfl⟩ hsz)
abbrev mL_needs : Mt := (yL_needs, cL_needs, 4, some .int)
abbrev hL_needs : List (Nat × Nat × Nat × Nat) := [(0, 9, 12, 13)]
set_option maxRecDepth 100000 in
theorem cfw_L_needs : CFW mL_needs hL_needs 3 := ⟨⟨List.mem_of_getElem? (i := 1331) rfl, rfl⟩, ⟨List.mem_of_getElem? (i := 146) rfl, rfl⟩, ⟨by decide, by decide⟩, by decide, by decide⟩
set_option maxRecDepth 100000 in
theorem cs_L_needs : InT (.static yL_needs) := ⟨List.mem_of_getElem? (i := 1330) rfl, rfl⟩
theorem wg_needs {g : Gp} {S : Sx} {d' : Nat} {x1 : Int32} {P : Int32 → Sx → Prop} (hd : d' + 1 ≤ 40) (h : RI g mX10_needs d' [.ref 0, .int x1] S P) : WR g mL_needs hL_needs [.ref 0, .int x1, .ref 562] S (fun k Y => k = 0 ∧ ∃ x X, P x X ∧ Y = sL X 0 x.toInt64) := by
  refine WR_of ⟨rfl, rfl⟩ (Nat.le_of_ble_eq_true rfl) (fun sz Q hQ => ?_)
  refine J_aload_n (pc := 0) dL_needs_0 rfl ?_
  refine J_iconst (pc := 1) (v := 0) dL_needs_1 (by decide) ?_
  refine J_aload_n (pc := 2) dL_needs_2 rfl ?_
  refine J_iload_n (pc := 3) dL_needs_3 rfl ?_
  refine J_cvI (pc := 4) (N := mX10_needs) dL_needs_4 ml_L_91 cf_X10_needs cv_X10_needs h rfl rfl (Nat.le_of_ble_eq_true rfl) hd (rv_of (ci := 10) rfl rfl rfl) (fun x X hP => ?_)
  refine J_i2l (pc := 7) dL_needs_7 ?_
  refine J_lsS (pc := 8) dL_needs_8 ?_
  refine J_goto (pc := 9) (tgt := 15) dL_needs_9 (by decide) ?_
  refine J_iconst (pc := 15) (v := 0) dL_needs_15 (by decide) ?_
  exact J_iret (pc := 16) rfl rfl rfl dL_needs_16 (hQ _ _ _ ⟨rfl, x, X, hP, rfl⟩ (Nat.le_refl _))
theorem we_needs_IA {g : Gp} {S S' : Sx} {d' : Nat} {x1 : Int32} (hd : d' + 1 ≤ 40) (h : TH g mX10_needs d' [.ref 0, .int x1] S IA S') : WR g mL_needs hL_needs [.ref 0, .int x1, .ref 562] S (fun k Y => k = 1 ∧ Y = S') := by
  refine WR_of ⟨rfl, rfl⟩ (Nat.le_of_ble_eq_true rfl) (fun sz Q hQ => ?_)
  refine J_aload_n (pc := 0) dL_needs_0 rfl ?_
  refine J_iconst (pc := 1) (v := 0) dL_needs_1 (by decide) ?_
  refine J_aload_n (pc := 2) dL_needs_2 rfl ?_
  refine J_iload_n (pc := 3) dL_needs_3 rfl ?_
  refine J_cvC (pc := 4) (N := mX10_needs) (nm := IA) (k := 3) (len := 1) rfl dL_needs_4 ml_L_91 cf_X10_needs cv_X10_needs h rfl rfl (Nat.le_of_ble_eq_true rfl) hd (by decide) (by decide) (rv_of (ci := 10) rfl rfl rfl) [] ⟨0, 9, 12, 13⟩ [] rfl (fun z hz => nomatch hz) (by decide) (by decide) cl_L13 ⟨rfl, ib_IA⟩ (Or.inl ⟨3, rfl, rfl, dL_needs_12⟩) (by decide) (fun sz' hsz => ?_)
  refine J_iconst (pc := 13) (v := 1) dL_needs_13 (by decide) ?_
  exact J_iret (pc := 14) rfl rfl rfl dL_needs_14 (hQ _ _ _ ⟨rfl, rfl⟩ hsz)
abbrev mL_strength : Mt := (yL_strength, cL_strength, 4, some .int)
abbrev hL_strength : List (Nat × Nat × Nat × Nat) := [(0, 9, 12, 31)]
set_option maxRecDepth 100000 in
theorem cfw_L_strength : CFW mL_strength hL_strength 3 := ⟨⟨List.mem_of_getElem? (i := 1338) rfl, rfl⟩, ⟨List.mem_of_getElem? (i := 146) rfl, rfl⟩, ⟨by decide, by decide⟩, by decide, by decide⟩
set_option maxRecDepth 100000 in
theorem cs_L_strength : InT (.static yL_strength) := ⟨List.mem_of_getElem? (i := 1337) rfl, rfl⟩
theorem wg_strength {g : Gp} {S : Sx} {d' : Nat} {x1 : Int32} {P : Int32 → Sx → Prop} (hd : d' + 1 ≤ 40) (h : RI g mX10_strength d' [.ref 0, .int x1] S P) : WR g mL_strength hL_strength [.ref 0, .int x1, .ref 562] S (fun k Y => k = 0 ∧ ∃ x X, P x X ∧ Y = sL X 0 x.toInt64) := by
  refine WR_of ⟨rfl, rfl⟩ (Nat.le_of_ble_eq_true rfl) (fun sz Q hQ => ?_)
  refine J_aload_n (pc := 0) dL_strength_0 rfl ?_
  refine J_iconst (pc := 1) (v := 0) dL_strength_1 (by decide) ?_
  refine J_aload_n (pc := 2) dL_strength_2 rfl ?_
  refine J_iload_n (pc := 3) dL_strength_3 rfl ?_
  refine J_cvI (pc := 4) (N := mX10_strength) dL_strength_4 ml_L_94 cf_X10_strength cv_X10_strength h rfl rfl (Nat.le_of_ble_eq_true rfl) hd (rv_of (ci := 10) rfl rfl rfl) (fun x X hP => ?_)
  refine J_i2l (pc := 7) dL_strength_7 ?_
  refine J_lsS (pc := 8) dL_strength_8 ?_
  refine J_goto (pc := 9) (tgt := 15) dL_strength_9 (by decide) ?_
  refine J_iconst (pc := 15) (v := 0) dL_strength_15 (by decide) ?_
  exact J_iret (pc := 16) rfl rfl rfl dL_strength_16 (hQ _ _ _ ⟨rfl, x, X, hP, rfl⟩ (Nat.le_refl _))
theorem we_strength_NS {g : Gp} {S S' : Sx} {d' : Nat} {x1 : Int32} (hd : d' + 1 ≤ 40) (h : TH g mX10_strength d' [.ref 0, .int x1] S NS S') : WR g mL_strength hL_strength [.ref 0, .int x1, .ref 562] S (fun k Y => k = 1 ∧ Y = S') := by
  refine WR_of ⟨rfl, rfl⟩ (Nat.le_of_ble_eq_true rfl) (fun sz Q hQ => ?_)
  refine J_aload_n (pc := 0) dL_strength_0 rfl ?_
  refine J_iconst (pc := 1) (v := 0) dL_strength_1 (by decide) ?_
  refine J_aload_n (pc := 2) dL_strength_2 rfl ?_
  refine J_iload_n (pc := 3) dL_strength_3 rfl ?_
  refine J_cvC (pc := 4) (N := mX10_strength) (nm := NS) (k := 3) (len := 1) rfl dL_strength_4 ml_L_94 cf_X10_strength cv_X10_strength h rfl rfl (Nat.le_of_ble_eq_true rfl) hd (by decide) (by decide) (rv_of (ci := 10) rfl rfl rfl) [] ⟨0, 9, 12, 31⟩ [] rfl (fun z hz => nomatch hz) (by decide) (by decide) cl_L31 ⟨rfl, ib_NS⟩ (Or.inl ⟨3, rfl, rfl, dL_strength_12⟩) (by decide) (fun sz' hsz => ?_)
  refine J_iconst (pc := 13) (v := 1) dL_strength_13 (by decide) ?_
  exact J_iret (pc := 14) rfl rfl rfl dL_strength_14 (hQ _ _ _ ⟨rfl, rfl⟩ hsz)
abbrev mL_weakest : Mt := (yL_weakest, cL_weakest, 4, some .int)
abbrev hL_weakest : List (Nat × Nat × Nat × Nat) := [(0, 9, 12, 13)]
set_option maxRecDepth 100000 in
theorem cfw_L_weakest : CFW mL_weakest hL_weakest 3 := ⟨⟨List.mem_of_getElem? (i := 1345) rfl, rfl⟩, ⟨List.mem_of_getElem? (i := 146) rfl, rfl⟩, ⟨by decide, by decide⟩, by decide, by decide⟩
set_option maxRecDepth 100000 in
theorem cs_L_weakest : InT (.static yL_weakest) := ⟨List.mem_of_getElem? (i := 1344) rfl, rfl⟩
theorem wg_weakest {g : Gp} {S : Sx} {d' : Nat} {x1 : Int32} {P : Int32 → Sx → Prop} (hd : d' + 1 ≤ 40) (h : RI g mX10_weakest d' [.ref 0, .int x1] S P) : WR g mL_weakest hL_weakest [.ref 0, .int x1, .ref 562] S (fun k Y => k = 0 ∧ ∃ x X, P x X ∧ Y = sL X 0 x.toInt64) := by
  refine WR_of ⟨rfl, rfl⟩ (Nat.le_of_ble_eq_true rfl) (fun sz Q hQ => ?_)
  refine J_aload_n (pc := 0) dL_weakest_0 rfl ?_
  refine J_iconst (pc := 1) (v := 0) dL_weakest_1 (by decide) ?_
  refine J_aload_n (pc := 2) dL_weakest_2 rfl ?_
  refine J_iload_n (pc := 3) dL_weakest_3 rfl ?_
  refine J_cvI (pc := 4) (N := mX10_weakest) dL_weakest_4 ml_L_97 cf_X10_weakest cv_X10_weakest h rfl rfl (Nat.le_of_ble_eq_true rfl) hd (rv_of (ci := 10) rfl rfl rfl) (fun x X hP => ?_)
  refine J_i2l (pc := 7) dL_weakest_7 ?_
  refine J_lsS (pc := 8) dL_weakest_8 ?_
  refine J_goto (pc := 9) (tgt := 15) dL_weakest_9 (by decide) ?_
  refine J_iconst (pc := 15) (v := 0) dL_weakest_15 (by decide) ?_
  exact J_iret (pc := 16) rfl rfl rfl dL_weakest_16 (hQ _ _ _ ⟨rfl, x, X, hP, rfl⟩ (Nat.le_refl _))
theorem we_weakest_IA {g : Gp} {S S' : Sx} {d' : Nat} {x1 : Int32} (hd : d' + 1 ≤ 40) (h : TH g mX10_weakest d' [.ref 0, .int x1] S IA S') : WR g mL_weakest hL_weakest [.ref 0, .int x1, .ref 562] S (fun k Y => k = 1 ∧ Y = S') := by
  refine WR_of ⟨rfl, rfl⟩ (Nat.le_of_ble_eq_true rfl) (fun sz Q hQ => ?_)
  refine J_aload_n (pc := 0) dL_weakest_0 rfl ?_
  refine J_iconst (pc := 1) (v := 0) dL_weakest_1 (by decide) ?_
  refine J_aload_n (pc := 2) dL_weakest_2 rfl ?_
  refine J_iload_n (pc := 3) dL_weakest_3 rfl ?_
  refine J_cvC (pc := 4) (N := mX10_weakest) (nm := IA) (k := 3) (len := 1) rfl dL_weakest_4 ml_L_97 cf_X10_weakest cv_X10_weakest h rfl rfl (Nat.le_of_ble_eq_true rfl) hd (by decide) (by decide) (rv_of (ci := 10) rfl rfl rfl) [] ⟨0, 9, 12, 13⟩ [] rfl (fun z hz => nomatch hz) (by decide) (by decide) cl_L13 ⟨rfl, ib_IA⟩ (Or.inl ⟨3, rfl, rfl, dL_weakest_12⟩) (by decide) (fun sz' hsz => ?_)
  refine J_iconst (pc := 13) (v := 1) dL_weakest_13 (by decide) ?_
  exact J_iret (pc := 14) rfl rfl rfl dL_weakest_14 (hQ _ _ _ ⟨rfl, rfl⟩ hsz)
abbrev mL_year : Mt := (yL_year, cL_year, 6, some .int)
abbrev hL_year : List (Nat × Nat × Nat × Nat) := [(0, 12, 15, 13)]
set_option maxRecDepth 100000 in
theorem cfw_L_year : CFW mL_year hL_year 5 := ⟨⟨List.mem_of_getElem? (i := 1352) rfl, rfl⟩, ⟨List.mem_of_getElem? (i := 146) rfl, rfl⟩, ⟨by decide, by decide⟩, by decide, by decide⟩
set_option maxRecDepth 100000 in
theorem cs_L_year : InT (.static yL_year) := ⟨List.mem_of_getElem? (i := 1351) rfl, rfl⟩
theorem wg_year {g : Gp} {S : Sx} {d' : Nat} {x1 x2 x3 : Int32} {P : Int32 → Sx → Prop} (hd : d' + 1 ≤ 40) (h : RI g mX10_year d' [.ref 0, .int x1, .int x2, .int x3] S P) : WR g mL_year hL_year [.ref 0, .int x1, .int x2, .int x3, .ref 562] S (fun k Y => k = 0 ∧ ∃ x X, P x X ∧ Y = sL X 0 x.toInt64) := by
  refine WR_of ⟨rfl, rfl⟩ (Nat.le_of_ble_eq_true rfl) (fun sz Q hQ => ?_)
  refine J_aload (pc := 0) dL_year_0 rfl ?_
  refine J_iconst (pc := 2) (v := 0) dL_year_2 (by decide) ?_
  refine J_aload_n (pc := 3) dL_year_3 rfl ?_
  refine J_iload_n (pc := 4) dL_year_4 rfl ?_
  refine J_iload_n (pc := 5) dL_year_5 rfl ?_
  refine J_iload_n (pc := 6) dL_year_6 rfl ?_
  refine J_cvI (pc := 7) (N := mX10_year) dL_year_7 ml_L_100 cf_X10_year cv_X10_year h rfl rfl (Nat.le_of_ble_eq_true rfl) hd (rv_of (ci := 10) rfl rfl rfl) (fun x X hP => ?_)
  refine J_i2l (pc := 10) dL_year_10 ?_
  refine J_lsS (pc := 11) dL_year_11 ?_
  refine J_goto (pc := 12) (tgt := 19) dL_year_12 (by decide) ?_
  refine J_iconst (pc := 19) (v := 0) dL_year_19 (by decide) ?_
  exact J_iret (pc := 20) rfl rfl rfl dL_year_20 (hQ _ _ _ ⟨rfl, x, X, hP, rfl⟩ (Nat.le_refl _))
theorem we_year_IA {g : Gp} {S S' : Sx} {d' : Nat} {x1 x2 x3 : Int32} (hd : d' + 1 ≤ 40) (h : TH g mX10_year d' [.ref 0, .int x1, .int x2, .int x3] S IA S') : WR g mL_year hL_year [.ref 0, .int x1, .int x2, .int x3, .ref 562] S (fun k Y => k = 1 ∧ Y = S') := by
  refine WR_of ⟨rfl, rfl⟩ (Nat.le_of_ble_eq_true rfl) (fun sz Q hQ => ?_)
  refine J_aload (pc := 0) dL_year_0 rfl ?_
  refine J_iconst (pc := 2) (v := 0) dL_year_2 (by decide) ?_
  refine J_aload_n (pc := 3) dL_year_3 rfl ?_
  refine J_iload_n (pc := 4) dL_year_4 rfl ?_
  refine J_iload_n (pc := 5) dL_year_5 rfl ?_
  refine J_iload_n (pc := 6) dL_year_6 rfl ?_
  refine J_cvC (pc := 7) (N := mX10_year) (nm := IA) (k := 5) (len := 2) rfl dL_year_7 ml_L_100 cf_X10_year cv_X10_year h rfl rfl (Nat.le_of_ble_eq_true rfl) hd (by decide) (by decide) (rv_of (ci := 10) rfl rfl rfl) [] ⟨0, 12, 15, 13⟩ [] rfl (fun z hz => nomatch hz) (by decide) (by decide) cl_L13 ⟨rfl, ib_IA⟩ (Or.inr ⟨rfl, dL_year_15⟩) (by decide) (fun sz' hsz => ?_)
  refine J_iconst (pc := 17) (v := 1) dL_year_17 (by decide) ?_
  exact J_iret (pc := 18) rfl rfl rfl dL_year_18 (hQ _ _ _ ⟨rfl, rfl⟩ hsz)
abbrev mL_span : Mt := (yL_span, cL_span, 8, some .int)
abbrev hL_span : List (Nat × Nat × Nat × Nat) := [(0, 16, 19, 13)]
set_option maxRecDepth 100000 in
theorem cfw_L_span : CFW mL_span hL_span 7 := ⟨⟨List.mem_of_getElem? (i := 1386) rfl, rfl⟩, ⟨List.mem_of_getElem? (i := 146) rfl, rfl⟩, ⟨by decide, by decide⟩, by decide, by decide⟩
set_option maxRecDepth 100000 in
theorem cs_L_span : InT (.static yL_span) := ⟨List.mem_of_getElem? (i := 1385) rfl, rfl⟩
theorem wg_span {g : Gp} {S : Sx} {d' : Nat} {x1 x2 x3 x4 x5 : Int32} {P : Int32 → Sx → Prop} (hd : d' + 1 ≤ 40) (h : RI g mX10_span d' [.ref 0, .int x1, .int x2, .int x3, .int x4, .int x5] S P) : WR g mL_span hL_span [.ref 0, .int x1, .int x2, .int x3, .int x4, .int x5, .ref 562] S (fun k Y => k = 0 ∧ ∃ x X, P x X ∧ Y = sL X 0 x.toInt64) := by
  refine WR_of ⟨rfl, rfl⟩ (Nat.le_of_ble_eq_true rfl) (fun sz Q hQ => ?_)
  refine J_aload (pc := 0) dL_span_0 rfl ?_
  refine J_iconst (pc := 2) (v := 0) dL_span_2 (by decide) ?_
  refine J_aload_n (pc := 3) dL_span_3 rfl ?_
  refine J_iload_n (pc := 4) dL_span_4 rfl ?_
  refine J_iload_n (pc := 5) dL_span_5 rfl ?_
  refine J_iload_n (pc := 6) dL_span_6 rfl ?_
  refine J_iload (pc := 7) dL_span_7 rfl ?_
  refine J_iload (pc := 9) dL_span_9 rfl ?_
  refine J_cvI (pc := 11) (N := mX10_span) dL_span_11 ml_L_103 cf_X10_span cv_X10_span h rfl rfl (Nat.le_of_ble_eq_true rfl) hd (rv_of (ci := 10) rfl rfl rfl) (fun x X hP => ?_)
  refine J_i2l (pc := 14) dL_span_14 ?_
  refine J_lsS (pc := 15) dL_span_15 ?_
  refine J_goto (pc := 16) (tgt := 23) dL_span_16 (by decide) ?_
  refine J_iconst (pc := 23) (v := 0) dL_span_23 (by decide) ?_
  exact J_iret (pc := 24) rfl rfl rfl dL_span_24 (hQ _ _ _ ⟨rfl, x, X, hP, rfl⟩ (Nat.le_refl _))
theorem we_span_IA {g : Gp} {S S' : Sx} {d' : Nat} {x1 x2 x3 x4 x5 : Int32} (hd : d' + 1 ≤ 40) (h : TH g mX10_span d' [.ref 0, .int x1, .int x2, .int x3, .int x4, .int x5] S IA S') : WR g mL_span hL_span [.ref 0, .int x1, .int x2, .int x3, .int x4, .int x5, .ref 562] S (fun k Y => k = 1 ∧ Y = S') := by
  refine WR_of ⟨rfl, rfl⟩ (Nat.le_of_ble_eq_true rfl) (fun sz Q hQ => ?_)
  refine J_aload (pc := 0) dL_span_0 rfl ?_
  refine J_iconst (pc := 2) (v := 0) dL_span_2 (by decide) ?_
  refine J_aload_n (pc := 3) dL_span_3 rfl ?_
  refine J_iload_n (pc := 4) dL_span_4 rfl ?_
  refine J_iload_n (pc := 5) dL_span_5 rfl ?_
  refine J_iload_n (pc := 6) dL_span_6 rfl ?_
  refine J_iload (pc := 7) dL_span_7 rfl ?_
  refine J_iload (pc := 9) dL_span_9 rfl ?_
  refine J_cvC (pc := 11) (N := mX10_span) (nm := IA) (k := 7) (len := 2) rfl dL_span_11 ml_L_103 cf_X10_span cv_X10_span h rfl rfl (Nat.le_of_ble_eq_true rfl) hd (by decide) (by decide) (rv_of (ci := 10) rfl rfl rfl) [] ⟨0, 16, 19, 13⟩ [] rfl (fun z hz => nomatch hz) (by decide) (by decide) cl_L13 ⟨rfl, ib_IA⟩ (Or.inr ⟨rfl, dL_span_19⟩) (by decide) (fun sz' hsz => ?_)
  refine J_iconst (pc := 21) (v := 1) dL_span_21 (by decide) ?_
  exact J_iret (pc := 22) rfl rfl rfl dL_span_22 (hQ _ _ _ ⟨rfl, rfl⟩ hsz)
