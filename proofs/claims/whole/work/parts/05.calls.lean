/-! ===== contracts and calls ===== -/
theorem lsl_in (g : Gp) : ∀ (as : List Value) (o i : Nat) (v : Value), (lsl as)[i]? = some (some v) → (o + i, cv g v) ∈ lv_args o (as.map (cv g))
  | [], o, i, v, h => by simp [lsl] at h
  | .long x :: t, o, i, v, h => by
    match i with
    | 0 => simp [lsl] at h; subst h; exact List.mem_cons_self
    | 1 => simp [lsl] at h
    | i + 2 =>
      have := lsl_in g t (o + 2) i v h
      rw [show o + (i + 2) = o + 2 + i by omega]
      exact List.mem_cons_of_mem _ this
  | .double x :: t, o, i, v, h => by
    match i with
    | 0 => simp [lsl] at h; subst h; exact List.mem_cons_self
    | 1 => simp [lsl] at h
    | i + 2 =>
      have := lsl_in g t (o + 2) i v h
      rw [show o + (i + 2) = o + 2 + i by omega]
      exact List.mem_cons_of_mem _ this
  | .int x :: t, o, i, v, h => by
    cases i with
    | zero => simp [lsl] at h; subst h; exact List.mem_cons_self
    | succ i =>
      have := lsl_in g t (o + 1) i v h
      rw [show o + (i + 1) = o + 1 + i by omega]
      exact List.mem_cons_of_mem _ this
  | .float x :: t, o, i, v, h => by
    cases i with
    | zero => simp [lsl] at h; subst h; exact List.mem_cons_self
    | succ i =>
      have := lsl_in g t (o + 1) i v h
      rw [show o + (i + 1) = o + 1 + i by omega]
      exact List.mem_cons_of_mem _ this
  | .ref x :: t, o, i, v, h => by
    cases i with
    | zero => simp [lsl] at h; subst h; exact List.mem_cons_self
    | succ i =>
      have := lsl_in g t (o + 1) i v h
      rw [show o + (i + 1) = o + 1 + i by omega]
      exact List.mem_cons_of_mem _ this
  | .null :: t, o, i, v, h => by
    cases i with
    | zero => simp [lsl] at h; subst h; exact List.mem_cons_self
    | succ i =>
      have := lsl_in g t (o + 1) i v h
      rw [show o + (i + 1) = o + 1 + i by omega]
      exact List.mem_cons_of_mem _ this
  | .retAddr x :: t, o, i, v, h => by
    cases i with
    | zero => simp [lsl] at h; subst h; exact List.mem_cons_self
    | succ i =>
      have := lsl_in g t (o + 1) i v h
      rw [show o + (i + 1) = o + 1 + i by omega]
      exact List.mem_cons_of_mem _ this
theorem lsl_len (g : Gp) : ∀ as : List Value, (lg_sl (as.map (cv g))).length = (lsl as).length
  | [] => rfl
  | v :: t => by
    have := lsl_len g t
    cases v <;> simp [lg_sl, lsl, cv, Value.category] at this ⊢ <;> omega
theorem CT_of_J {g : Gp} {M : Mt} {d kc ks : Nat} {as : List Value} {h : AH} {sz : Nat} {Q : Po} (hy : plainName M.1.cls = true ∧ isLaw M = false) (hn : (lsl as).length ≤ M.2.2.1) (k : J g M d [] 0 (lsl as) [] h sz kc ks Q) : CT g M d kc ks as h sz Q := by
  refine vx_ofW hy.1 rfl ?_
  intro p e s m args below meth c s₁ B hml hnx hv
  obtain ⟨rfl, hH, hS⟩ := hv
  rw [lg_entry_eq]
  have hl0 := lv_entry (as.map (cv g)) (n := M.2.2.1) (by rw [lsl_len]; exact hn)
  refine k p e s m _ below meth c _ kc ks _ ⟨B.exec, B.bytes, hml, B.returns, findClass_of_methodNamed B.named, B.notSynchronized, hS, Nat.le_refl _, Nat.le_refl _, Nat.le_refl _, Nat.le_refl _, ?_, (name_of_methodNamed B.named B.method).1⟩ (Or.inl ⟨hy.2, rfl⟩) _ _ _ _ _ hH va_S.rf ⟨hl0.1, hl0.2.1, fun i v hi => ?_⟩ (by omega) (by omega)
  · cases hc : c.exceptionTable.toList with
    | nil => rfl
    | cons x t => exact absurd (hnx x (by rw [hc]; exact List.mem_cons_self)) id
  · have := lsl_in g as 0 i v hi
    rw [Nat.zero_add] at this
    exact hl0.2.2 _ this
def NT (g : Gp) (M : Mt) (d kc ks : Nat) (as : List Value) (h : AH) (sz : Nat) (Q : Po) : Prop :=
  Met (gl g) M.1 [Cond.code M.1 M.2.1 M.2.2.1 M.2.2.2] (rmd d kc ks) (va_Pc (as.map (cv g)) (fun U => Hr g h sz U.heap ∧ Sr g U U.heap)) (Qcd g Q) kc ks (Ag g)
theorem NT_of_CT {g : Gp} {M : Mt} {d kc ks : Nat} {as : List Value} {h : AH} {sz : Nat} {Q : Po} (hx : ∀ E h sz, ¬ Q (.inr E) h sz) (k : CT g M d kc ks as h sz Q) : NT g M d kc ks as h sz Q := by
  intro p e ha hc hk s m args below hf happ hP hK
  obtain ⟨n, o, h1, h2, h3, h4⟩ := k p e ha hc hk s m args below hf happ hP hK
  refine ⟨n, o, h1, h2, h3, ?_⟩
  rcases h4 with h4 | ⟨q, -, E, ce, L, ⟨⟨h', sz', h5, -⟩, -⟩, -⟩
  · exact h4
  · exact absurd h5 (hx E h' sz')
abbrev InT (w : Cond) : Prop := w ∈ lw_tbl ∧ goodWord w = true
abbrev InN (w : Cond) : Prop := w ∈ lw_tbl ∧ isNest w = true
/-- what the tables say of a callee with n parameters -/
abbrev CF (N : Mt) (n : Nat) : Prop := InT (.code N.1 N.2.1 N.2.2.1 N.2.2.2) ∧ InT (.initialized N.1.cls) ∧ (N.1.cls ≠ "java/lang/invoke/MethodHandle" ∧ N.1.cls ≠ "java/lang/invoke/VarHandle") ∧ (parseMethodDescriptor N.1.desc).map (fun d => d.parameters.length) = some n ∧ N.2.2.1 ≤ 41
abbrev CFv (N : Mt) : Prop := InT (.instanceMethod N.1) ∧ InT (.selects N.1.cls N.1 N.1)
/-- the receiver's class -/
def Rv (h : AH) (a : Nat) (C : String) : Prop := (∃ (ci : Nat) (fs : List Value) (r : vw_C), h a = some (.inr (ci, fs)) ∧ cls[ci]? = some r ∧ r.1 = C) ∨ (C = "java/lang/String" ∧ SB ≤ a ∧ a < SB + 8)
section JC
variable {g : Gp} {M N : Mt} {d d' : Nat} {tb : List ExceptionTableEntry} {pc idx n a : Nat} {ls ls' : List (Option Value)} {st as rest : List Value} {h : AH} {sz kc ks kc' ks' : Nat} {Q Q' : Po}
theorem Rv.cell {C : String} {s : State} {H : Heap} {locs : List Loc} (hr : Rv h a C) (hH : Hr g h sz H) (hS0 : Sr g s s.heap) (hS : va_S (Ag g) s.heap H locs) : ∃ cell : Cell, H[ab g a]? = some cell ∧ cell.vm.isStatics = false ∧ s.vm.findClass C = some cell.cls := by
  rcases hr with ⟨ci, fs, r, h1, h2, rfl⟩ | ⟨rfl, h1, h2⟩
  · obtain ⟨q1, q2⟩ := hH.2 a _ h1
    rw [ab_lo q1]
    have hP : va_P (gD g) cls [(gB g + a, cE g (.inr (ci, fs)))] H := by
      intro k q hk
      match k with
      | 0 => cases hk; exact q2
      | k + 1 => simp at hk
    exact va_recv hS0.1 hP h2 (q0 := 0) rfl
  · have h3 : ab g a = gK g (a - SB) := by
      unfold ab
      rw [if_neg (by omega), if_pos (by omega)]
    rw [h3]
    exact vk_recv hS0.2.2.1 (by omega) hS
theorem pre_of {s : State} {H : Heap} {locs : List Loc} (hH : Hr g h sz H) (hS0 : Sr g s s.heap) (hS : va_S (Ag g) s.heap H locs) (U : State) (hU : U.heap = H) (hW : s.WarmedH U.vm) : Hr g h sz U.heap ∧ Sr g U U.heap := by
  rw [hU]
  exact ⟨hH, (hS0.kept hS.2.1).warm hW⟩
theorem blind_of : FrameBlind (va_Pc (as.map (cv g)) (fun U => Hr g h sz U.heap ∧ Sr g U U.heap)) := by
  intro a U gg mk q
  obtain ⟨q0, q1, q2⟩ := q
  exact ⟨q0, q1, Sr.same (s := U) (U := U.calling gg mk a) (H := U.heap) rfl q2⟩
set_option maxRecDepth 4000 in
theorem num1 {a d' d L : Nat} (h : a ≤ 41) (hdd : d' + 1 ≤ d) (hR : 60 * (d + 8) ≤ L) : 8 + (a + 11) + 60 * (d' + 8) ≤ L := by omega
theorem num2 {d' d L : Nat} (hdd : d' + 1 ≤ d) (hR : d + 8 ≤ L) : d' + 8 + 1 ≤ L := by omega
theorem cb_of {s : State} {args : Array Value} {R : Room} (hS0 : Sr g s s.heap) (hR1 : d + 8 ≤ R.frames) (hR2 : 60 * (d + 8) ≤ R.locals) (hc : CF N n) (hl : InT (.methodLink M.1.cls idx N.1)) (hdd : d' + 1 ≤ d) :
    CallB R s args M.1.cls idx N.1 N.2.1 N.2.2.1 N.2.2.2 [Cond.code N.1 N.2.1 N.2.2.1 N.2.2.2] (rmd d' kc' ks') kc' ks' n := by
  refine ⟨rfl, rfl, num2 hdd hR1, num1 hc.2.2.2.2 hdd hR2, fun w hw a' U hW => ?_, List.mem_cons_self, hS0.2.1.good hc.1.1 hc.1.2, hS0.2.1.good hc.2.1.1 hc.2.1.2, hc.2.2.1, fun sig hsig => ?_, hS0.2.1.good hl.1 hl.2⟩
  · rw [List.mem_singleton.mp hw]
    exact good_any hc.1.2 hW (hS0.2.1 _ hc.1.1 (Or.inl hc.1.2))
  · have h2 := hc.2.2.2.1
    rw [hsig] at h2
    exact (Option.some.inj h2).symm
theorem cat_map (g : Gp) (l : List Value) : ((l.map (cv g)).map fun v => v.category).sum = (l.map fun v => v.category).sum := by
  rw [List.map_map]
  congr 1
  exact List.map_congr_left fun v _ => cv_cat g v
theorem stk_v (g : Gp) (as rest : List Value) (a : Nat) : (as.reverse ++ .ref a :: rest).map (cv g) = (as.map (cv g)).reverse ++ .ref (ab g a) :: rest.map (cv g) := by
  rw [List.map_append, List.map_reverse, List.map_cons]
  rfl
theorem stk_s (g : Gp) (as rest : List Value) : (as.reverse ++ rest).map (cv g) = (as.map (cv g)).reverse ++ rest.map (cv g) := by
  rw [List.map_append, List.map_reverse]
theorem vl_map (g : Gp) (v : Option Value) (rest : List Value) : (v.map (cv g)).toList ++ rest.map (cv g) = (v.toList ++ rest).map (cv g) := by
  cases v <;> rfl
/-- behind a call that may throw -/
theorem J_back {p : Program} {e : Env} {s : State} {m : MethodId} {args : Array Value} {below : List Frame} {meth : Method} {c : Code} {R : Room} {mc ms : Nat} {QF : State → Prop} (C : Cx g M d mc ms p s m meth c R tb) (E : En g M s args below mc ms Q QF) {H : Heap} {locs : List Loc} {cells slots : Nat} {la : Array Slot} {st0 : List Value} {aa : Array Value}
    (hS : va_S (Ag g) s.heap H locs) (hl : LR g la M.2.2.1 ls) (h1 : cells + kc ≤ mc) (h2 : slots + ks ≤ ms) (hk1 : kc' ≤ kc) (hk2 : ks' ≤ ks)
    (hr : vx_Run p (gl g) e R s m args below meth c H locs cells slots kc' ks' (F0 m pc la st0) (rest.map (cv g)) (Qcd g Q' aa) (Xcd g Q') (Ag g))
    (kr : ∀ v h' sz', Q' (.inl v) h' sz' → J g M d tb (pc + 3) ls (v.toList ++ rest) h' sz' (kc - kc') (ks - ks') Q)
    (kx : ∀ X h' sz', Q' (.inr X) h' sz' → ∀ (ce : Cell) (q : Nat) (H1 : Heap) (locs1 : List Loc), Hr g h' sz' H1 → va_S (Ag g) s.heap H1 locs1 → H1[q]? = some ce → ce.vm = .none → s.vm.findClass X = some ce.cls → vx_W p (gl g) e R s m args below meth c H1 locs1 (cells + kc') (slots + ks') QF (F0 m pc la (rest.map (cv g))) q) :
    W p (gl g) e R s m args below meth c H locs cells slots QF (F0 m pc la st0) := by
  intro T hT X
  rcases hr T hT X with ⟨v, st₀, t, T', L, h0, X', hL, e1, e2, ⟨⟨v0, h', sz', hv, hq, hh⟩, hF⟩, stp⟩ | ⟨q, st₀, t, T', L, EE, ce, h0, X', hL, e1, e2, ⟨⟨h', sz', hq, hh⟩, hF⟩, hce, hcv, hcl, stp⟩
  · cases hv
    obtain ⟨k1, k2, k3⟩ := vx_keep (A0 := Ag g) (A1 := Ag g) (free := Ag g) h0 e1 hS (fun _ _ z => z) (fun _ z => z) hL hF
    rw [← e1] at hh
    have := kr v0 h' sz' hq p e s m args below meth c R mc ms QF C E T'.heap (locs ++ L) (cells + kc') (slots + ks') la hh k3 hl (by omega) (by omega)
    rw [← vl_map] at this
    obtain ⟨t2, a1, b1⟩ := this T' rfl X'
    exact ⟨t2, stp t2 a1, b1⟩
  · obtain ⟨k1, k2, k3⟩ := vx_keep (A0 := Ag g) (A1 := Ag g) (free := Ag g) h0 e1 hS (fun _ _ z => z) (fun _ z => z) hL hF
    rw [← e1] at hh
    obtain ⟨t2, a1, b1⟩ := kx EE h' sz' hq ce q T'.heap (locs ++ L) hh k3 (by rw [e1]; exact hce) hcv hcl T' rfl X'
    exact ⟨t2, stp.trans a1, b1⟩
/-- behind a call that returns -/
theorem J_backN {p : Program} {e : Env} {s : State} {m : MethodId} {args : Array Value} {below : List Frame} {meth : Method} {c : Code} {R : Room} {mc ms : Nat} {QF : State → Prop} (C : Cx g M d mc ms p s m meth c R tb) (E : En g M s args below mc ms Q QF) {H : Heap} {locs : List Loc} {cells slots : Nat} {la : Array Slot} {st0 : List Value} {aa : Array Value}
    (hS : va_S (Ag g) s.heap H locs) (hl : LR g la M.2.2.1 ls) (h1 : cells + kc ≤ mc) (h2 : slots + ks ≤ ms) (hk1 : kc' ≤ kc) (hk2 : ks' ≤ ks)
    (hr : va_Run p (gl g) e R s m args below meth c H locs cells slots kc' ks' (F0 m pc la st0) (rest.map (cv g)) (Qcd g Q' aa) (Ag g))
    (kr : ∀ v h' sz', Q' (.inl v) h' sz' → J g M d tb (pc + 3) ls (v.toList ++ rest) h' sz' (kc - kc') (ks - ks') Q) :
    W p (gl g) e R s m args below meth c H locs cells slots QF (F0 m pc la st0) := by
  intro T hT X
  obtain ⟨v, st₀, t, T', L, h0, X', hL, e1, e2, ⟨⟨v0, h', sz', hv, hq, hh⟩, hF⟩, stp⟩ := hr T hT X
  cases hv
  obtain ⟨k1, k2, k3⟩ := vx_keep (A0 := Ag g) (A1 := Ag g) (free := Ag g) h0 e1 hS (fun _ _ z => z) (fun _ z => z) hL hF
  rw [← e1] at hh
  have := kr v0 h' sz' hq p e s m args below meth c R mc ms QF C E T'.heap (locs ++ L) (cells + kc') (slots + ks') la hh k3 hl (by omega) (by omega)
  rw [← vl_map] at this
  obtain ⟨t2, a1, b1⟩ := this T' rfl X'
  exact ⟨t2, stp t2 a1, b1⟩
theorem J_cv (hd : decode M.2.1 pc = .ok (.invokevirtual idx, 3)) (hm : InT (.methodLink M.1.cls idx N.1)) (hc : CF N n) (hv : CFv N) (hT : NT g N d' kc' ks' (.ref a :: as) h sz Q') (hst : st = as.reverse ++ .ref a :: rest) (hn : as.length = n) (hcat : (rest.map fun v => v.category).sum ≤ 8) (hdd : d' + 1 ≤ d) (hk1 : kc' ≤ kc) (hk2 : ks' ≤ ks) (hrv : Rv h a N.1.cls)
    (kr : ∀ v h' sz', Q' (.inl v) h' sz' → J g M d tb (pc + 3) ls (v.toList ++ rest) h' sz' (kc - kc') (ks - ks') Q) : J g M d tb pc ls st h sz kc ks Q := by
  intro p e s m args below meth c R mc ms QF C E H locs cells slots la hH hS hl h1 h2
  subst hst
  rw [stk_v]
  obtain ⟨c1, c2, c3, c4, c5, c6, c7, c8, c9, c10, c11, c12, c13⟩ := C
  refine J_backN ⟨c1, c2, c3, c4, c5, c6, c7, c8, c9, c10, c11, c12, c13⟩ E hS hl h1 h2 hk1 hk2 (va_runV (As := as.map (cv g)) (Ts := []) ⟨c1, c2, c3, c5, fun w hw => nomatch hw⟩ hT ⟨cb_of c7 c8 c9 hc hm hdd, c7.2.1.good hv.1.1 hv.1.2, c7.2.1.good hv.2.1 hv.2.2⟩ ⟨blind_of, hrv.cell hH c7 hS, fun U hU hW => ⟨rfl, pre_of hH c7 hS U hU hW⟩⟩ rfl (by rw [List.length_map]; exact hn) hl.1 rfl (lv_room (by rw [cat_map]; exact hcat)) hd (by omega)) kr
theorem J_cs (hd : decode M.2.1 pc = .ok (.invokestatic idx, 3)) (hm : InT (.methodLink M.1.cls idx N.1)) (hc : CF N n) (hv : InT (.static N.1)) (hT : NT g N d' kc' ks' as h sz Q') (hst : st = as.reverse ++ rest) (hn : as.length = n) (hcat : (rest.map fun v => v.category).sum ≤ 8) (hdd : d' + 1 ≤ d) (hk1 : kc' ≤ kc) (hk2 : ks' ≤ ks)
    (kr : ∀ v h' sz', Q' (.inl v) h' sz' → J g M d tb (pc + 3) ls (v.toList ++ rest) h' sz' (kc - kc') (ks - ks') Q) : J g M d tb pc ls st h sz kc ks Q := by
  intro p e s m args below meth c R mc ms QF C E H locs cells slots la hH hS hl h1 h2
  subst hst
  rw [stk_s]
  obtain ⟨c1, c2, c3, c4, c5, c6, c7, c8, c9, c10, c11, c12, c13⟩ := C
  refine J_backN ⟨c1, c2, c3, c4, c5, c6, c7, c8, c9, c10, c11, c12, c13⟩ E hS hl h1 h2 hk1 hk2 (va_runS (As := as.map (cv g)) (Ts := []) ⟨c1, c2, c3, c5, fun w hw => nomatch hw⟩ hT ⟨cb_of c7 c8 c9 hc hm hdd, c7.2.1.good hv.1 hv.2⟩ ⟨blind_of, fun U hU hW => ⟨rfl, pre_of hH c7 hS U hU hW⟩⟩ rfl (by rw [List.length_map]; exact hn) hl.1 rfl (lv_room (by rw [cat_map]; exact hcat)) hd (by omega)) kr
end JC
