/-! ===== methods with handlers: the law's own ===== -/
def NTW (g : Gp) (M : Mt) (hh : List (Nat × Nat × Nat × Nat)) (d kc ks : Nat) (as : List Value) (h : AH) (sz : Nat) (Q : Po) : Prop :=
  Met (gl g) M.1 [Cond.codeWith M.1 M.2.1 M.2.2.1 M.2.2.2 hh] (rmd d kc ks) (va_Pc (as.map (cv g)) (fun U => Hr g h sz U.heap ∧ Sr g U U.heap)) (Qcd g Q) kc ks (Ag g)
def CTW (g : Gp) (M : Mt) (hh : List (Nat × Nat × Nat × Nat)) (d kc ks : Nat) (as : List Value) (h : AH) (sz : Nat) (Q : Po) : Prop :=
  vx_Met (gl g) M.1 [Cond.codeWith M.1 M.2.1 M.2.2.1 M.2.2.2 hh] (rmd d kc ks) (va_Pc (as.map (cv g)) (fun U => Hr g h sz U.heap ∧ Sr g U U.heap)) (Qcd g Q) (Xcd g Q) kc ks (Ag g)
theorem CTW_of_J {g : Gp} {M : Mt} {hh : List (Nat × Nat × Nat × Nat)} {d kc ks : Nat} {as : List Value} {h : AH} {sz : Nat} {Q : Po} (hy : plainName M.1.cls = true ∧ isLaw M = false) (hn : (lsl as).length ≤ M.2.2.1) (k : J g M d (tableOf hh) 0 (lsl as) [] h sz kc ks Q) : CTW g M hh d kc ks as h sz Q := by
  refine vx_ofWH (hh := hh) hy.1 rfl ?_
  intro p e s m args below meth c s₁ B hml hv
  obtain ⟨rfl, hH, hS⟩ := hv
  rw [lg_entry_eq]
  have hl0 := lv_entry (as.map (cv g)) (n := M.2.2.1) (by rw [lsl_len]; exact hn)
  have htb := vx_table (x := M.1) B (atoms_spec (ws := [Cond.codeWith M.1 M.2.1 M.2.2.1 M.2.2.2 hh]) B.pre _ List.mem_cons_self)
  refine k p e s m _ below meth c _ kc ks _ ⟨B.exec, B.bytes, hml, B.returns, findClass_of_methodNamed B.named, B.notSynchronized, hS, Nat.le_refl _, Nat.le_refl _, Nat.le_refl _, Nat.le_refl _, htb, (name_of_methodNamed B.named B.method).1⟩ (Or.inl ⟨hy.2, rfl⟩) _ _ _ _ _ hH va_S.rf ⟨hl0.1, hl0.2.1, fun i v hi => ?_⟩ (by omega) (by omega)
  have := lsl_in g as 0 i v hi
  rw [Nat.zero_add] at this
  exact hl0.2.2 _ this
theorem NTW_of_CTW {g : Gp} {M : Mt} {hh : List (Nat × Nat × Nat × Nat)} {d kc ks : Nat} {as : List Value} {h : AH} {sz : Nat} {Q : Po} (hx : ∀ E h sz, ¬ Q (.inr E) h sz) (k : CTW g M hh d kc ks as h sz Q) : NTW g M hh d kc ks as h sz Q := by
  intro p e ha hc hk s m args below hf happ hP hK
  obtain ⟨n, o, h1, h2, h3, h4⟩ := k p e ha hc hk s m args below hf happ hP hK
  refine ⟨n, o, h1, h2, h3, ?_⟩
  rcases h4 with h4 | ⟨q, -, E, ce, L, ⟨⟨h', sz', h5, -⟩, -⟩, -⟩
  · exact h4
  · exact absurd h5 (hx E h' sz')
abbrev CFW (N : Mt) (hh : List (Nat × Nat × Nat × Nat)) (n : Nat) : Prop := InT (.codeWith N.1 N.2.1 N.2.2.1 N.2.2.2 hh) ∧ InT (.initialized N.1.cls) ∧ (N.1.cls ≠ "java/lang/invoke/MethodHandle" ∧ N.1.cls ≠ "java/lang/invoke/VarHandle") ∧ (parseMethodDescriptor N.1.desc).map (fun d => d.parameters.length) = some n ∧ N.2.2.1 ≤ 41
section JH
variable {g : Gp} {M N : Mt} {hh : List (Nat × Nat × Nat × Nat)} {d d' n idx a pc i : Nat} {tb : List ExceptionTableEntry} {ls : List (Option Value)} {st as rest : List Value} {S S' : Sx} {h : AH} {sz kc ks kc' ks' : Nat} {Q Q' : Po} {E : String}
theorem J_csW (hd : decode M.2.1 pc = .ok (.invokestatic idx, 3)) (hm : InT (.methodLink M.1.cls idx N.1)) (hc : CFW N hh n) (hv : InT (.static N.1)) (hT : NTW g N hh d' kc' ks' as h sz Q') (hst : st = as.reverse ++ rest) (hn : as.length = n) (hcat : (rest.map fun v => v.category).sum ≤ 8) (hdd : d' + 1 ≤ d) (hk1 : kc' ≤ kc) (hk2 : ks' ≤ ks)
    (kr : ∀ v h' sz', Q' (.inl v) h' sz' → J g M d tb (pc + 3) ls (v.toList ++ rest) h' sz' (kc - kc') (ks - ks') Q) : J g M d tb pc ls st h sz kc ks Q := by
  intro p e s m args below meth c R mc ms QF C E H locs cells slots la hH hS hl h1 h2
  subst hst
  rw [stk_s]
  obtain ⟨c1, c2, c3, c4, c5, c6, c7, c8, c9, c10, c11, c12, c13⟩ := C
  refine J_backN ⟨c1, c2, c3, c4, c5, c6, c7, c8, c9, c10, c11, c12, c13⟩ E hS hl h1 h2 hk1 hk2 (vx_runSW (hh := hh) (n := n) (bytes := N.2.1) (maxL := N.2.2.1) (ret := N.2.2.2) (As := as.map (cv g)) (Ts := []) ⟨c1, c2, c3, c5, fun w hw => nomatch hw⟩ hT
    ⟨⟨rfl, rfl, num2 hdd c8, num1 hc.2.2.2.2 hdd c9, fun w hw a' U hW => ?_, List.mem_cons_self⟩, c7.2.1.good hc.1.1 hc.1.2, c7.2.1.good hc.2.1.1 hc.2.1.2, hc.2.2.1, fun sig hsig => ?_, c7.2.1.good hm.1 hm.2, c7.2.1.good hv.1 hv.2⟩ ⟨blind_of, fun U hU hW => ⟨rfl, pre_of hH c7 hS U hU hW⟩⟩ rfl (by rw [List.length_map]; exact hn) hl.1 rfl (lv_room (by rw [cat_map]; exact hcat)) hd (by omega)) kr
  · rw [List.mem_singleton.mp hw]
    exact good_any hc.1.2 hW (c7.2.1 _ hc.1.1 (Or.inl hc.1.2))
  · have h2 := hc.2.2.2.1
    rw [hsig] at h2
    exact (Option.some.inj h2).symm
/-- what stands of the two exceptions -/
def NcA (E nm : String) : Prop := (E = IA ∧ nm = NS) ∨ (E = NS ∧ nm = IA)
theorem NcA.use {nm : String} {s : State} {H : Heap} (h : NcA E nm) (hS : Sr g s H) : va_Nc E nm s := by
  obtain ⟨-, -, -, -, -, -, -, -, -, h1, h2, -⟩ := hS
  rcases h with ⟨rfl, rfl⟩ | ⟨rfl, rfl⟩
  · exact h1
  · exact h2
/-- a call that throws E, which is caught here -/
theorem J_cvC {nm : String} {k len : Nat} (hM : isLaw M = false) (hd : decode M.2.1 pc = .ok (.invokevirtual idx, 3)) (hm : InT (.methodLink M.1.cls idx N.1)) (hc : CF N n) (hv : CFv N) (hT : TH g N d' (.ref a :: as) S E S') (hst : st = as.reverse ++ .ref a :: rest) (hn : as.length = n) (hcat : (rest.map fun v => v.category).sum ≤ 8) (hdd : d' + 1 ≤ d) (hk1 : 1 ≤ kc) (hk2 : 6 ≤ ks) (hrv : Rv (hs S) a N.1.cls)
    (pre : List ExceptionTableEntry) (x : ExceptionTableEntry) (suf : List ExceptionTableEntry) (hsplit : tb = pre ++ x :: suf) (hpass : ∀ z ∈ pre, covers z pc = false ∨ (z.catchType ≠ 0 ∧ ∃ nm, InT (.classLink M.1.cls z.catchType nm) ∧ NcA E nm)) (hx : covers x pc = true) (h0 : x.catchType ≠ 0) (hlink : InT (.classLink M.1.cls x.catchType nm)) (hcast : nm = E ∧ InT (.instantiable E 6))
    (hh : (∃ i : Fin 4, (i : Nat) = k ∧ len = 1 ∧ decode M.2.1 x.handlerPc = .ok (.astore_n i, 1)) ∨ (len = 2 ∧ decode M.2.1 x.handlerPc = .ok (.astore k, 2))) (hkl : k < M.2.2.1)
    (kk : ∀ sz', sz ≤ sz' → J g M d tb (x.handlerPc + len) [] [] (hs S') sz' (kc - 1) (ks - 6) Q) : J g M d tb pc ls st (hs S) sz kc ks Q := by
  intro p e s m args below meth c R mc ms QF C En H locs cells slots la hH hS hl h1 h2
  subst hst
  rw [stk_v]
  obtain ⟨c1, c2, c3, c4, c5, c6, c7, c8, c9, c10, c11, c12, c13⟩ := C
  refine J_back ⟨c1, c2, c3, c4, c5, c6, c7, c8, c9, c10, c11, c12, c13⟩ En hS hl h1 h2 hk1 hk2 (vx_runV (As := as.map (cv g)) (Ts := []) ⟨c1, c2, c3, c5, fun w hw => nomatch hw⟩ (hT sz) ⟨cb_of c7 c8 c9 hc hm hdd, c7.2.1.good hv.1.1 hv.1.2, c7.2.1.good hv.2.1 hv.2.2⟩ ⟨blind_of, hrv.cell hH c7 hS, fun U hU hW => ⟨rfl, pre_of hH c7 hS U hU hW⟩⟩ rfl (by rw [List.length_map]; exact hn) hl.1 rfl (lv_room (by rw [cat_map]; exact hcat)) hd (by omega)) (fun v h' sz' hq => by cases hq.1) ?_
  intro X h' sz' hq ce q H1 locs1 g1 g2 g3 g4 g5
  obtain ⟨e1, rfl, h3⟩ := hq
  cases e1
  refine vx_catch (own := M.1.cls) (name := nm) (E := E) c5 pre x suf (by rw [c12]; exact hsplit) (fun z hz => ?_) hx h0 (c7.2.1.good hlink.1 hlink.2) (by rw [hcast.1]; exact cb_self (c7.2.1.good hcast.2.1 hcast.2.2)) g3 g4 g5 ?_
  · rcases hpass z hz with q1 | ⟨q1, nm1, q2, q3⟩
    · exact Or.inl q1
    · exact Or.inr ⟨q1, nm1, c7.2.1.good q2.1 q2.2, q3.use c7⟩
  · rcases hh with ⟨i, rfl, rfl, hd2⟩ | ⟨rfl, hd2⟩
    · exact lv_astore_n c1 c2 hd2 rfl hl.has hkl rfl (fun la' hl' => kk sz' h3 p e s m args below meth c R mc ms QF ⟨c1, c2, c3, c4, c5, c6, c7, c8, c9, c10, c11, c12, c13⟩ En H1 locs1 _ _ la' g1 g2 ⟨hl'.1, hl'.2.1, fun i v hi => by simp at hi⟩ (by omega) (by omega))
    · exact lv_astore c1 c2 hd2 hl.has hkl rfl (fun la' hl' => kk sz' h3 p e s m args below meth c R mc ms QF ⟨c1, c2, c3, c4, c5, c6, c7, c8, c9, c10, c11, c12, c13⟩ En H1 locs1 _ _ la' g1 g2 ⟨hl'.1, hl'.2.1, fun i v hi => by simp at hi⟩ (by omega) (by omega))
end JH
/-- the law's long -/
theorem lay_big {b : Nat} (h : 563 ≤ b) : lay b = none := by
  unfold lay layM
  rw [if_pos (by omega)]
  repeat rw [if_neg (by omega)]
theorem lay_2 {b n x y : Nat} (h : lay b = some (.inr (2, n, x, y))) : b = 562 := by
  by_cases q : 563 ≤ b
  · rw [lay_big q] at h; cases h
  · have := List.all_eq_true.mp (show (List.range 563).all (fun b => match lay b with | some (.inr (2, _)) => b == 562 | _ => true) = true by decide +kernel) b (List.mem_range.mpr (by omega))
    rw [h] at this
    exact eq_of_beq this
theorem hup_L {S : Sx} {k : Nat} {v : Int64} : hup (hs S) 562 (.inl (2, 1, .inr (.inl (vp_updL (sl S) k v)))) = hs (sL S k v) := by
  refine hup_hs (d := .inr (2, 1, 0, 0)) rfl rfl (fun b d' hb hl => ?_)
  match d', hl with
  | .inl (ci, fds), _ => exact congrArg (fun z => (Sum.inr (ci, z) : AE)) (fvl_other S (sL S k v) b (fun _ => rfl) (fun _ => rfl) 0 fds)
  | .inr (0, n, 0, _), _ => rfl
  | .inr (0, n, _ + 1, _), _ => rfl
  | .inr (1, n, _, _), _ => rfl
  | .inr (2, n, x, y), hl => exact absurd (lay_2 hl) hb
  | .inr (k + 3, n, b, s), _ => rfl
section JLn
variable {g : Gp} {M : Mt} {d pc : Nat} {tb : List ExceptionTableEntry} {ls : List (Option Value)} {st : List Value} {S : Sx} {sz kc ks : Nat} {Q : Po} {v : Int64}
theorem J_lsS (hd : decode M.2.1 pc = .ok (.lastore, 1)) (kk : J g M d tb (pc + 1) ls st (hs (sL S 0 v)) sz kc ks Q) : J g M d tb pc ls (.long v :: .int 0 :: .ref 562 :: st) (hs S) sz kc ks Q := by
  refine J_last hd (hs_at (a := 562) (d := .inr (2, 1, 0, 0)) rfl) (vp_in_nI (n := 0) (N := 1) (by decide) (by decide)) ?_
  rw [show (0 : Int32).toNatClampNeg = 0 from rfl, hup_L]
  exact kk
theorem J_llS (hd : decode M.2.1 pc = .ok (.laload, 1)) (kk : J g M d tb (pc + 1) ls (.long (sl S 0) :: st) (hs S) sz kc ks Q) : J g M d tb pc ls (.int 0 :: .ref 562 :: st) (hs S) sz kc ks Q :=
  J_lald hd (hs_at (a := 562) (d := .inr (2, 1, 0, 0)) rfl) (vp_in_nI (n := 0) (N := 1) (by decide) (by decide)) kk
end JLn
/-- a contract of the law's own method: an int, a state; an exception may have been made -/
def WR (g : Gp) (N : Mt) (hh : List (Nat × Nat × Nat × Nat)) (as : List Value) (S : Sx) (P : Int32 → Sx → Prop) : Prop := ∀ sz, NTW g N hh 40 1 6 as (hs S) sz (fun o h sz' => ∃ x X, o = .inl (some (.int x)) ∧ h = hs X ∧ P x X ∧ sz ≤ sz')
def RJ (g : Gp) (N : Mt) (d : Nat) (as : List Value) (S : Sx) (P : Int64 → Sx → Prop) : Prop := ∀ sz, NT g N d 0 0 as (hs S) sz (fun o h sz' => ∃ x X, o = .inl (some (.long x)) ∧ h = hs X ∧ P x X ∧ sz' = sz)
theorem WR_of {g : Gp} {N : Mt} {hh : List (Nat × Nat × Nat × Nat)} {as : List Value} {S : Sx} {P : Int32 → Sx → Prop} (hy : plainName N.1.cls = true ∧ isLaw N = false) (hn : (lsl as).length ≤ N.2.2.1) (k : ∀ sz Q, (∀ x X sz', P x X → sz ≤ sz' → Q (.inl (some (.int x))) (hs X) sz') → J g N 40 (tableOf hh) 0 (lsp N.2.2.1 (lsl as)) [] (hs S) sz 1 6 Q) : WR g N hh as S P :=
  fun sz => NTW_of_CTW (fun E h sz' q => by obtain ⟨x, X, q, -⟩ := q; cases q) (CTW_of_J hy hn (J_forget (lsp_at _ _) (k sz _ (fun x X sz' h1 h2 => ⟨x, X, rfl, rfl, h1, h2⟩))))
section JRI
variable {g : Gp} {M N : Mt} {d d' n idx a pc : Nat} {tb : List ExceptionTableEntry} {ls : List (Option Value)} {st as rest : List Value} {S : Sx} {sz kc ks : Nat} {Q : Po} {P : Int32 → Sx → Prop} {P8 : Int64 → Sx → Prop}
theorem J_cvJ (hd : decode M.2.1 pc = .ok (.invokevirtual idx, 3)) (hm : InT (.methodLink M.1.cls idx N.1)) (hc : CF N n) (hv : CFv N) (hT : RJ g N d' (.ref a :: as) S P8) (hst : st = as.reverse ++ .ref a :: rest) (hn : as.length = n) (hcat : (rest.map fun v => v.category).sum ≤ 8) (hdd : d' + 1 ≤ d) (hrv : Rv (hs S) a N.1.cls) (kr : ∀ x X, P8 x X → J g M d tb (pc + 3) ls (.long x :: rest) (hs X) sz kc ks Q) : J g M d tb pc ls st (hs S) sz kc ks Q := by
  refine J_cv hd hm hc hv (hT sz) hst hn hcat hdd (Nat.zero_le _) (Nat.zero_le _) hrv (fun v h' sz' hq => ?_)
  obtain ⟨x, X, h1, rfl, h3, rfl⟩ := hq
  cases h1
  exact kr x X h3
theorem J_csR (hd : decode M.2.1 pc = .ok (.invokestatic idx, 3)) (hm : InT (.methodLink M.1.cls idx N.1)) {hh : List (Nat × Nat × Nat × Nat)} (hc : CFW N hh n) (hv : InT (.static N.1)) (hT : WR g N hh as S P) (hst : st = as.reverse ++ rest) (hn : as.length = n) (hcat : (rest.map fun v => v.category).sum ≤ 8) (hdd : 41 ≤ d) (hk1 : 1 ≤ kc) (hk2 : 6 ≤ ks) (kr : ∀ x X sz', P x X → sz ≤ sz' → J g M d tb (pc + 3) ls (.int x :: rest) (hs X) sz' (kc - 1) (ks - 6) Q) : J g M d tb pc ls st (hs S) sz kc ks Q := by
  refine J_csW hd hm hc hv (hT sz) hst hn hcat hdd hk1 hk2 (fun v h' sz' hq => ?_)
  obtain ⟨x, X, h1, rfl, h3, h4⟩ := hq
  cases h1
  exact kr x X sz' h3 h4
end JRI
