/-! ===== the law's first steps ===== -/
set_option maxRecDepth 100000 in
theorem cl_L8 : InT (.classLink RL 8 RX10) := ⟨List.mem_of_getElem? (i := 172) rfl, rfl⟩
set_option maxRecDepth 100000 in
theorem cl_L108 : InT (.classLink RL 108 RX11) := ⟨List.mem_of_getElem? (i := 1392) rfl, rfl⟩
set_option maxRecDepth 100000 in
theorem in_X10 : InT (.initialized RX10) := ⟨List.mem_of_getElem? (i := 147) rfl, rfl⟩
set_option maxRecDepth 100000 in
theorem in_X11 : InT (.initialized RX11) := ⟨List.mem_of_getElem? (i := 158) rfl, rfl⟩
theorem law_pre {g : Gp} (h23 : J g mLW 60 [] 23 (l8 0) [] (hs S00) 563 512 3072 LQ) : J g mLW 60 [] 0 [some (.ref (SB + 110))] [] hE 0 601024 7293034 LQ := by
  refine J_forget (lsp_at 8 _) ?_
  refine J_new (pc := 0) dL_law__0 kc10 cl_L8 ⟨ib_10, rfl⟩ in_X10 [.null, .null, .null, .null, .null, .null, .null, .null, .null, .null, .null, .null, .null, .int 0, .int 0, .int 0] (fun _ => rfl) (by decide) (by decide) (by decide) (by decide) ?_
  refine J_dup (pc := 3) dL_law__3 rfl ?_
  refine J_ci (pc := 4) (N := mX10_init) dL_law__4 ml_L_107 cf_X10_init cv_X10_init (nX10i rfl) rfl rfl (Nat.le_of_ble_eq_true rfl) (by decide) (by decide) (by decide) (fun v9 h9 z9 q9 => ?_)
  obtain ⟨e9, rfl, rfl⟩ := q9
  cases e9
  refine J_astore_n (pc := 7) dL_law__7 (by decide) rfl ?_
  refine J_new (pc := 8) dL_law__8 kc11 cl_L108 ⟨ib_11, rfl⟩ in_X11 [.int 0, .int 0, .int 0, .int 0, .int 0, .int 0, .int 0, .int 0, .int 0, .null, .null, .null, .null, .null, .null, .null, .null, .null, .null, .null, .null, .int 0, .int 0, .null, .null, .null, .null, .null, .null, .null, .int 0, .null, .null, .null, .null, .int 0, .int 0, .int 0, .int 0, .int 0, .int 0, .int 0, .null, .null, .null, .null, .int 0, .int 0, .int 0] (fun _ => rfl) (by decide) (by decide) (by decide) (by decide) ?_
  refine J_dup (pc := 11) dL_law__11 rfl ?_
  refine J_ci (pc := 12) (N := mX11_init) dL_law__12 ml_L_110 cf_X11_init cv_X11_init (nX11i rfl) rfl rfl (Nat.le_of_ble_eq_true rfl) (by decide) (by decide) (by decide) (fun v9 h9 z9 q9 => ?_)
  obtain ⟨e9, rfl, rfl⟩ := q9
  cases e9
  refine J_astore_n (pc := 15) dL_law__15 (by decide) rfl ?_
  refine J_iconst (pc := 16) (v := 1) dL_law__16 (by decide) ?_
  refine J_na (pc := 17) (t := 2) (n := 1) (z := .inr (.inl (fun _ => 0))) dL_law__17 rfl (fun _ q => q) ac_l ⟨by decide, by decide⟩ (by decide) (fun _ => rfl) (by decide) (by decide) (by decide) ?_
  refine J_astore_n (pc := 19) dL_law__19 (by decide) rfl ?_
  refine J_iconst (pc := 20) (v := 0) dL_law__20 (by decide) ?_
  refine J_istore (pc := 21) dL_law__21 (by decide) rfl ?_
  refine J_cg1 (ls' := l8 0) rfl ?_
  refine J_sub (h' := hs S00) (fun a e h => ini_sub h) ?_
  exact J_mono (Q' := LQ) (kc' := 512) (ks' := 3072) (by decide) (by decide) h23
