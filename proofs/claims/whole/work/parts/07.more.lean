/-! ===== nest mates, constructors, throws, references in arrays, copies, strings ===== -/
section JM
variable {g : Gp} {M N : Mt} {d d' : Nat} {tb : List ExceptionTableEntry} {pc idx n a ci k : Nat} {ls ls' : List (Option Value)} {st as rest fs : List Value} {h : AH} {sz kc ks kc' ks' : Nat} {Q Q' : Po} {host : String}
theorem cn_of {s : State} {args : Array Value} {R : Room} (hS0 : Sr g s s.heap) (hR1 : d + 8 ≤ R.frames) (hR2 : 60 * (d + 8) ≤ R.locals) (hc : CF N n) (hl : InN (.methodLinkNest M.1.cls idx N.1 host)) (hdd : d' + 1 ≤ d) :
    va_CN R s args M.1.cls idx N.1 host N.2.1 N.2.2.1 N.2.2.2 [Cond.code N.1 N.2.1 N.2.2.1 N.2.2.2] (rmd d' kc' ks') kc' ks' n := by
  refine ⟨⟨rfl, rfl, num2 hdd hR1, num1 hc.2.2.2.2 hdd hR2, fun w hw a' U hW => ?_, List.mem_cons_self⟩, hS0.2.1.good hc.1.1 hc.1.2, hS0.2.1.good hc.2.1.1 hc.2.1.2, hc.2.2.1, fun sig hsig => ?_, va_Nw.use rfl (hS0.2.1.nest hl.1 hl.2)⟩
  · rw [List.mem_singleton.mp hw]
    exact good_any hc.1.2 hW (hS0.2.1 _ hc.1.1 (Or.inl hc.1.2))
  · have h2 := hc.2.2.2.1
    rw [hsig] at h2
    exact (Option.some.inj h2).symm
theorem J_cvN (hd : decode M.2.1 pc = .ok (.invokevirtual idx, 3)) (hm : InN (.methodLinkNest M.1.cls idx N.1 host)) (hc : CF N n) (hv : CFv N) (hT : NT g N d' kc' ks' (.ref a :: as) h sz Q') (hst : st = as.reverse ++ .ref a :: rest) (hn : as.length = n) (hcat : (rest.map fun v => v.category).sum ≤ 8) (hdd : d' + 1 ≤ d) (hk1 : kc' ≤ kc) (hk2 : ks' ≤ ks) (hrv : Rv h a N.1.cls)
    (kr : ∀ v h' sz', Q' (.inl v) h' sz' → J g M d tb (pc + 3) ls (v.toList ++ rest) h' sz' (kc - kc') (ks - ks') Q) : J g M d tb pc ls st h sz kc ks Q := by
  intro p e s m args below meth c R mc ms QF C E H locs cells slots la hH hS hl h1 h2
  subst hst
  rw [stk_v]
  obtain ⟨c1, c2, c3, c4, c5, c6, c7, c8, c9, c10, c11, c12, c13⟩ := C
  refine J_backN ⟨c1, c2, c3, c4, c5, c6, c7, c8, c9, c10, c11, c12, c13⟩ E hS hl h1 h2 hk1 hk2 (va_runVN (As := as.map (cv g)) (Ts := []) ⟨c1, c2, c3, c5, fun w hw => nomatch hw⟩ hT ⟨cn_of c7 c8 c9 hc hm hdd, c7.2.1.good hv.1.1 hv.1.2, c7.2.1.good hv.2.1 hv.2.2⟩ ⟨blind_of, hrv.cell hH c7 hS, fun U hU hW => ⟨rfl, pre_of hH c7 hS U hU hW⟩⟩ rfl (by rw [List.length_map]; exact hn) hl.1 rfl (lv_room (by rw [cat_map]; exact hcat)) hd (by omega)) kr
theorem J_ci (hd : decode M.2.1 pc = .ok (.invokespecial idx, 3)) (hm : InT (.methodLink M.1.cls idx N.1)) (hc : CF N n) (hv : InT (.instanceMethod N.1) ∧ N.1.name = "<init>" ∧ N.2.2.2 = none) (hT : NT g N d' kc' ks' (.ref a :: as) h sz Q') (hst : st = as.reverse ++ .ref a :: rest) (hn : as.length = n) (hcat : (rest.map fun v => v.category).sum ≤ 8) (hdd : d' + 1 ≤ d) (hk1 : kc' ≤ kc) (hk2 : ks' ≤ ks)
    (kr : ∀ v h' sz', Q' (.inl v) h' sz' → J g M d tb (pc + 3) ls (v.toList ++ rest) h' sz' (kc - kc') (ks - ks') Q) : J g M d tb pc ls st h sz kc ks Q := by
  intro p e s m args below meth c R mc ms QF C E H locs cells slots la hH hS hl h1 h2
  subst hst
  rw [stk_v]
  obtain ⟨c1, c2, c3, c4, c5, c6, c7, c8, c9, c10, c11, c12, c13⟩ := C
  have hcb := cb_of (args := args) (R := R) (kc' := kc') (ks' := ks') (M := M) c7 c8 c9 hc hm hdd
  have hr := hv.2.2
  obtain ⟨N1, N2, N3, N4⟩ := N
  dsimp only at hr
  subst hr
  refine J_backN ⟨c1, c2, c3, c4, c5, c6, c7, c8, c9, c10, c11, c12, c13⟩ E hS hl h1 h2 hk1 hk2 (va_runI (As := as.map (cv g)) (Ts := []) ⟨c1, c2, c3, c5, fun w hw => nomatch hw⟩ hT ⟨hcb, hv.2.1, c7.2.1.good hv.1.1 hv.1.2⟩ ⟨blind_of (as := .ref a :: as), fun U hU hW => ⟨rfl, pre_of hH c7 hS U hU hW⟩⟩ rfl (by rw [List.length_map]; exact hn) hl.1 rfl (lv_room (by rw [cat_map]; exact hcat)) hd (by omega)) kr
theorem J_ciN (hd : decode M.2.1 pc = .ok (.invokespecial idx, 3)) (hm : InN (.methodLinkNest M.1.cls idx N.1 host)) (hc : CF N n) (hv : InT (.instanceMethod N.1) ∧ N.1.name = "<init>" ∧ N.2.2.2 = none) (hT : NT g N d' kc' ks' (.ref a :: as) h sz Q') (hst : st = as.reverse ++ .ref a :: rest) (hn : as.length = n) (hcat : (rest.map fun v => v.category).sum ≤ 8) (hdd : d' + 1 ≤ d) (hk1 : kc' ≤ kc) (hk2 : ks' ≤ ks)
    (kr : ∀ v h' sz', Q' (.inl v) h' sz' → J g M d tb (pc + 3) ls (v.toList ++ rest) h' sz' (kc - kc') (ks - ks') Q) : J g M d tb pc ls st h sz kc ks Q := by
  intro p e s m args below meth c R mc ms QF C E H locs cells slots la hH hS hl h1 h2
  subst hst
  rw [stk_v]
  obtain ⟨c1, c2, c3, c4, c5, c6, c7, c8, c9, c10, c11, c12, c13⟩ := C
  have hcb := cn_of (args := args) (R := R) (kc' := kc') (ks' := ks') (M := M) c7 c8 c9 hc hm hdd
  have hr := hv.2.2
  obtain ⟨N1, N2, N3, N4⟩ := N
  dsimp only at hr
  subst hr
  refine J_backN ⟨c1, c2, c3, c4, c5, c6, c7, c8, c9, c10, c11, c12, c13⟩ E hS hl h1 h2 hk1 hk2 (va_runIN (As := as.map (cv g)) (Ts := []) ⟨c1, c2, c3, c5, fun w hw => nomatch hw⟩ hT ⟨hcb, hv.2.1, c7.2.1.good hv.1.1 hv.1.2⟩ ⟨blind_of (as := .ref a :: as), fun U hU hW => ⟨rfl, pre_of hH c7 hS U hU hW⟩⟩ rfl (by rw [List.length_map]; exact hn) hl.1 rfl (lv_room (by rw [cat_map]; exact hcat)) hd (by omega)) kr
/-- a call that may throw, in a method without handlers: what it throws goes on -/
theorem J_cvT (hM : isLaw M = false) (hd : decode M.2.1 pc = .ok (.invokevirtual idx, 3)) (hm : InT (.methodLink M.1.cls idx N.1)) (hc : CF N n) (hv : CFv N) (hT : CT g N d' kc' ks' (.ref a :: as) h sz Q') (hst : st = as.reverse ++ .ref a :: rest) (hn : as.length = n) (hcat : (rest.map fun v => v.category).sum ≤ 8) (hdd : d' + 1 ≤ d) (hk1 : kc' ≤ kc) (hk2 : ks' ≤ ks) (hrv : Rv h a N.1.cls)
    (kx : ∀ X h' sz', Q' (.inr X) h' sz' → Q (.inr X) h' sz')
    (kr : ∀ v h' sz', Q' (.inl v) h' sz' → J g M d [] (pc + 3) ls (v.toList ++ rest) h' sz' (kc - kc') (ks - ks') Q) : J g M d [] pc ls st h sz kc ks Q := by
  intro p e s m args below meth c R mc ms QF C E H locs cells slots la hH hS hl h1 h2
  subst hst
  rw [stk_v]
  obtain ⟨c1, c2, c3, c4, c5, c6, c7, c8, c9, c10, c11, c12, c13⟩ := C
  refine J_back ⟨c1, c2, c3, c4, c5, c6, c7, c8, c9, c10, c11, c12, c13⟩ E hS hl h1 h2 hk1 hk2 (vx_runV (As := as.map (cv g)) (Ts := []) ⟨c1, c2, c3, c5, fun w hw => nomatch hw⟩ hT ⟨cb_of c7 c8 c9 hc hm hdd, c7.2.1.good hv.1.1 hv.1.2, c7.2.1.good hv.2.1 hv.2.2⟩ ⟨blind_of, hrv.cell hH c7 hS, fun U hU hW => ⟨rfl, pre_of hH c7 hS U hU hW⟩⟩ rfl (by rw [List.length_map]; exact hn) hl.1 rfl (lv_room (by rw [cat_map]; exact hcat)) hd (by omega)) kr ?_
  intro X h' sz' hq ce q H1 locs1 g1 g2 g3 g4 g5
  rcases E with ⟨-, E⟩ | ⟨E, -⟩
  · subst E
    exact vx_out (fun x hx => by rw [c12] at hx; cases hx) c6 g3 g4 g5 (fun t ht hW => ⟨⟨h', sz', kx X h' sz' hq, by rw [ht]; exact g1⟩, g2.F ht⟩) g2.2.2 (by omega) (by omega)
  · rw [hM] at E; cases E
theorem vr_len {n : Nat} {i : Int32} (hi : vp_in i n) : i.toNatClampNeg < n := Nat.not_le.mp fun q => hi (Or.inr q)
/-- a reference out of an array of references -/
theorem J_aald {t : Nat} {f : Nat → Option Nat} {i : Int32} {b : Nat} (hd : decode M.2.1 pc = .ok (.aaload, 1)) (ht : t = 3 ∨ t = 4) (ha : h a = some (.inl (t, n, .inr (.inr (.inr (.inr f)))))) (hi : vp_in i n) (hb : f i.toNatClampNeg = some b) (kk : J g M d tb (pc + 1) ls (.ref b :: st) h sz kc ks Q) : J g M d tb pc ls (.int i :: .ref a :: st) h sz kc ks Q := by
  intro p e s m args below meth c R mc ms QF C E H locs cells slots la hH hS hl h1 h2
  have hk := kk p e s m args below meth c R mc ms QF C E H locs cells slots la hH hS hl h1 h2
  rw [List.map_cons, List.map_cons, cv_ref, cv_int, ab_of hH ha]
  have hlt := vr_len hi
  obtain ⟨ft, hft, hrf⟩ : ∃ ft, (tyG g)[t]? = some (gA g t, ft) ∧ ft.isReference = true := by
    rcases ht with rfl | rfl
    · exact ⟨_, rfl, rfl⟩
    · exact ⟨_, rfl, rfl⟩
  refine W.aald (v := va_rf ((f i.toNatClampNeg).map (ab g))) (ty := ft) C.1 C.2.1 (hH.2 a _ ha).2 ((C.2.2.2.2.2.2.1.1.2 t _ hft).1 n (fun j => va_rf ((f j).map (ab g)))) hrf (fun q => by cases q) (by show ¬ (i < 0 ∨ (arrV _ _ _).slots.size ≤ _); rw [arrV_size]; exact hi) (by show (arrV _ _ _).slots[_]? = _; rw [arrV_read _ _ hlt]) rfl rfl hd ?_
  rw [hb]
  exact hk
end JM
