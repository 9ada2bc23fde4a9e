/-! ===== fields and arrays ===== -/
/-- what the tables say of a class -/
abbrev KC (ci : Nat) (r : vw_C) (ty : Nat → FieldType) : Prop := cls[ci]? = some r ∧ (∀ w ∈ u_ws r.1 r.2.1 r.2.2, InT w) ∧ (∀ a, a < r.2.2 → ∀ b, b < r.2.2 → a ≠ b → (r.2.1 a).2.1 ≠ (r.2.1 b).2.1) ∧ (∀ k, k < r.2.2 → parseFieldDescriptor (r.2.1 k).2.2.1 = some (ty k))
abbrev FLp (own : String) (idx k : Nat) (r : vw_C) : Prop := k < r.2.2 ∧ InT (.fieldLink own idx (r.2.1 k).1 (r.2.1 k).2.1 (r.2.1 k).2.2.1)
abbrev FLn (own : String) (idx k : Nat) (r : vw_C) (host : String) : Prop := k < r.2.2 ∧ InN (.fieldLinkNest own idx (r.2.1 k).1 (r.2.1 k).2.1 (r.2.1 k).2.2.1 host)
section JH
variable {g : Gp} {M : Mt} {d : Nat} {tb : List ExceptionTableEntry} {pc idx ci k a n : Nat} {ls ls' : List (Option Value)} {st fs : List Value} {h : AH} {sz kc ks : Nat} {Q : Po} {r : vw_C} {ty : Nat → FieldType} {host : String} {v : Value}
theorem hP1 {H : Heap} {e : AE} (hH : Hr g h sz H) (ha : h a = some e) : va_P (gD g) cls [(gB g + a, cE g e)] H := by
  intro k q hk
  match k with
  | 0 => cases hk; exact (hH.2 a e ha).2
  | k + 1 => simp at hk
theorem ab_of {H : Heap} {e : AE} (hH : Hr g h sz H) (ha : h a = some e) : ab g a = gB g + a := ab_lo (hH.2 a e ha).1
theorem wd_u {s : State} {args : Array Value} (K : KC ci r ty) (hS0 : Sr g s s.heap) : ∀ w ∈ u_ws r.1 r.2.1 r.2.2, w.before args s = true := fun w hw => hS0.2.1.good (K.2.1 w hw).1 (K.2.1 w hw).2
theorem J_get (hd : decode M.2.1 pc = .ok (.getfield idx, 3)) (K : KC ci r ty) (F : FLp M.1.cls idx k r) (ha : h a = some (.inr (ci, fs))) (hv : fs[k]? = some v) (kk : J g M d tb (pc + 3) ls (v :: st) h sz kc ks Q) : J g M d tb pc ls (.ref a :: st) h sz kc ks Q := by
  intro p e s m args below meth c R mc ms QF C E H locs cells slots la hH hS hl h1 h2
  have hk := kk p e s m args below meth c R mc ms QF C E H locs cells slots la hH hS hl h1 h2
  obtain ⟨c1, c2, c3, c4, c5, c6, c7, c8, c9, c10, c11, c12, c13⟩ := C
  rw [List.map_cons, cv_ref, ab_of hH ha]
  exact va_get (C := r.1) (T := r.2.1) (N := r.2.2) (Ts := u_ws r.1 r.2.1 r.2.2) c1 c2 (wd_u K c7) (fun _ q => q) c5 c7.1 (hP1 hH ha) 0 rfl K.1 k F.1 (c7.2.1.good F.2.1 F.2.2) (fun _ q => q) (by rw [List.getElem?_map, hv]; rfl) hd hk
theorem J_getN (hd : decode M.2.1 pc = .ok (.getfield idx, 3)) (K : KC ci r ty) (F : FLn M.1.cls idx k r host) (ha : h a = some (.inr (ci, fs))) (hv : fs[k]? = some v) (kk : J g M d tb (pc + 3) ls (v :: st) h sz kc ks Q) : J g M d tb pc ls (.ref a :: st) h sz kc ks Q := by
  intro p e s m args below meth c R mc ms QF C E H locs cells slots la hH hS hl h1 h2
  have hk := kk p e s m args below meth c R mc ms QF C E H locs cells slots la hH hS hl h1 h2
  obtain ⟨c1, c2, c3, c4, c5, c6, c7, c8, c9, c10, c11, c12, c13⟩ := C
  rw [List.map_cons, cv_ref, ab_of hH ha]
  exact va_getN (C := r.1) (T := r.2.1) (N := r.2.2) (Ts := u_ws r.1 r.2.1 r.2.2) c1 c2 (wd_u K c7) (fun _ q => q) c5 c7.1 (hP1 hH ha) 0 rfl K.1 k F.1 (va_Nw.use rfl (c7.2.1.nest F.2.1 F.2.2)) (fun _ q => q) (by rw [List.getElem?_map, hv]; rfl) hd hk
theorem map_set' (g : Gp) (fs : List Value) (k : Nat) (v : Value) : (fs.set k v).map (cv g) = (fs.map (cv g)).set k (cv g v) := by rw [List.map_set]
theorem J_put (hd : decode M.2.1 pc = .ok (.putfield idx, 3)) (K : KC ci r ty) (F : FLp M.1.cls idx k r) (hfin : (r.2.1 k).2.2.2 = false) (ha : h a = some (.inr (ci, fs))) (hlen : k < fs.length) (hn : narrow (ty k) (cv g v) = cv g v) (hfit : fits (ty k) (cv g v) = true) (kk : J g M d tb (pc + 3) ls st (hup h a (.inr (ci, fs.set k v))) sz kc ks Q) : J g M d tb pc ls (v :: .ref a :: st) h sz kc ks Q := by
  intro p e s m args below meth c R mc ms QF C E H locs cells slots la hH hS hl h1 h2
  have hk := kk p e s m args below meth c R mc ms QF C E
  obtain ⟨c1, c2, c3, c4, c5, c6, c7, c8, c9, c10, c11, c12, c13⟩ := C
  rw [List.map_cons, List.map_cons, cv_ref, ab_of hH ha]
  have hts := wd_u (args := args) K c7
  have hap := va_apart (own := r.1) hts (fun _ q => q) ty K.2.2.2 K.2.2.1 c7.1 K.1
  obtain ⟨r', g1, cell, q1, q2, q3, q4⟩ := (hH.2 a _ ha).2
  cases Option.some.inj (g1.symm.trans K.1)
  obtain ⟨hSl, hfc, kC, hkC, hkind⟩ := c7.1.1 ci _ K.1
  obtain ⟨cf, kf, fi, f, hi, hsl⟩ := hSl k F.1
  have hlay := hts _ (u_in_lay F.1)
  unfold u_lay at hlay
  rw [if_neg (by rw [hfin]; decide)] at hlay
  have hst := (u_facts hfc hkC (u_lays hts (fun _ q => q) F.1) hi).1
  have h6 := u_store hfc hkC hkind hlay hi (K.2.2.2 k F.1) hn hfit
  refine W.putK c1 c2 (f := f) ⟨c5, c7.2.1.good F.2.1 F.2.2, ⟨_, _, _, hi⟩, hst⟩ (by rw [q2]; exact h6) q1 q3 (by rw [hsl]; exact k2_hasslot (q4 k F.1)) rfl rfl hd fun H' e1 e2 e3 => ?_
  rw [hsl] at e1 ⊢
  refine hk H' _ cells slots la (hH.put (hH.2 a _ ha).1 e2 ?_ e3) (hS.put e2 e3 (by show gB g ≤ _; omega)) hl h1 h2
  exact ⟨_, K.1, t_OB.to (V := updV (vp_V (fs.map (cv g))) k (cv g v)) ⟨_, e1, q2, q3, t_set q4 hap F.1 (cv g v)⟩ (fun j _ => by rw [map_set']; exact vp_updV_set (by rw [List.length_map]; exact hlen) (cv g v) j)⟩
theorem J_putN (hd : decode M.2.1 pc = .ok (.putfield idx, 3)) (K : KC ci r ty) (F : FLn M.1.cls idx k r host) (hfin : (r.2.1 k).2.2.2 = false) (ha : h a = some (.inr (ci, fs))) (hlen : k < fs.length) (hn : narrow (ty k) (cv g v) = cv g v) (hfit : fits (ty k) (cv g v) = true) (kk : J g M d tb (pc + 3) ls st (hup h a (.inr (ci, fs.set k v))) sz kc ks Q) : J g M d tb pc ls (v :: .ref a :: st) h sz kc ks Q := by
  intro p e s m args below meth c R mc ms QF C E H locs cells slots la hH hS hl h1 h2
  have hk := kk p e s m args below meth c R mc ms QF C E
  obtain ⟨c1, c2, c3, c4, c5, c6, c7, c8, c9, c10, c11, c12, c13⟩ := C
  rw [List.map_cons, List.map_cons, cv_ref, ab_of hH ha]
  have hts := wd_u (args := args) K c7
  have hap := va_apart (own := r.1) hts (fun _ q => q) ty K.2.2.2 K.2.2.1 c7.1 K.1
  obtain ⟨r', g1, cell, q1, q2, q3, q4⟩ := (hH.2 a _ ha).2
  cases Option.some.inj (g1.symm.trans K.1)
  obtain ⟨hSl, hfc, kC, hkC, hkind⟩ := c7.1.1 ci _ K.1
  obtain ⟨cf, kf, fi, f, hi, hsl⟩ := hSl k F.1
  have hlay := hts _ (u_in_lay F.1)
  unfold u_lay at hlay
  rw [if_neg (by rw [hfin]; decide)] at hlay
  have hst := (u_facts hfc hkC (u_lays hts (fun _ q => q) F.1) hi).1
  have h6 := u_store hfc hkC hkind hlay hi (K.2.2.2 k F.1) hn hfit
  refine va_WputK c1 c2 (f := f) c5 (va_Nw.use rfl (c7.2.1.nest F.2.1 F.2.2)) hi hst (by rw [q2]; exact h6) q1 q3 (by rw [hsl]; exact k2_hasslot (q4 k F.1)) rfl rfl hd fun H' e1 e2 e3 => ?_
  rw [hsl] at e1 ⊢
  refine hk H' _ cells slots la (hH.put (hH.2 a _ ha).1 e2 ?_ e3) (hS.put e2 e3 (by show gB g ≤ _; omega)) hl h1 h2
  exact ⟨_, K.1, t_OB.to (V := updV (vp_V (fs.map (cv g))) k (cv g v)) ⟨_, e1, q2, q3, t_set q4 hap F.1 (cv g v)⟩ (fun j _ => by rw [map_set']; exact vp_updV_set (by rw [List.length_map]; exact hlen) (cv g v) j)⟩
/-- a final field, in its class's constructor -/
theorem J_putF (hd : decode M.2.1 pc = .ok (.putfield idx, 3)) (K : KC ci r ty) (F : FLp M.1.cls idx k r) (hfin : (r.2.1 k).2.2.2 = true ∧ (r.2.1 k).1 = M.1.cls ∧ M.1.name = "<init>") (ha : h a = some (.inr (ci, fs))) (hlen : k < fs.length) (hn : narrow (ty k) (cv g v) = cv g v) (hfit : fits (ty k) (cv g v) = true) (kk : J g M d tb (pc + 3) ls st (hup h a (.inr (ci, fs.set k v))) sz kc ks Q) : J g M d tb pc ls (v :: .ref a :: st) h sz kc ks Q := by
  intro p e s m args below meth c R mc ms QF C E H locs cells slots la hH hS hl h1 h2
  have hk := kk p e s m args below meth c R mc ms QF C E
  obtain ⟨c1, c2, c3, c4, c5, c6, c7, c8, c9, c10, c11, c12, c13⟩ := C
  rw [List.map_cons, List.map_cons, cv_ref, ab_of hH ha]
  have hts := wd_u (args := args) K c7
  have hap := va_apart (own := r.1) hts (fun _ q => q) ty K.2.2.2 K.2.2.1 c7.1 K.1
  obtain ⟨r', g1, cell, q1, q2, q3, q4⟩ := (hH.2 a _ ha).2
  cases Option.some.inj (g1.symm.trans K.1)
  obtain ⟨hSl, hfc, kC, hkC, hkind⟩ := c7.1.1 ci _ K.1
  obtain ⟨cf, kf, fi, f, hi, hsl⟩ := hSl k F.1
  have hlay := hts _ (u_in_lay F.1)
  unfold u_lay at hlay
  rw [if_pos hfin.1] at hlay
  have hst := (u_facts hfc hkC (u_lays hts (fun _ q => q) F.1) hi).1
  have hcf : m.cls = cf := by
    obtain ⟨_, _, c', _, _, _, -, -, hf', -, -, -, hown2, -⟩ := Cond.laysFinal_spec hlay
    have e1 : c' = cf := by have := hi.symm.trans hf'; simp at this; exact this.1.symm
    rw [hfin.2.1] at hown2
    rw [← e1]; exact Option.some.inj (c5.symm.trans hown2)
  have h6 := u_fits hfc hkC hkind (Or.inr hlay) hi (K.2.2.2 k F.1) hn hfit
  refine W.putFinK c1 c2 c5 (c7.2.1.good F.2.1 F.2.2) hi hst hcf (c13.trans hfin.2.2) (by rw [q2]; exact h6) q1 q3 (by rw [hsl]; exact k2_hasslot (q4 k F.1)) rfl rfl hd fun H' e1 e2 e3 => ?_
  rw [hsl] at e1 ⊢
  refine hk H' _ cells slots la (hH.put (hH.2 a _ ha).1 e2 ?_ e3) (hS.put e2 e3 (by show gB g ≤ _; omega)) hl h1 h2
  exact ⟨_, K.1, t_OB.to (V := updV (vp_V (fs.map (cv g))) k (cv g v)) ⟨_, e1, q2, q3, t_set q4 hap F.1 (cv g v)⟩ (fun j _ => by rw [map_set']; exact vp_updV_set (by rw [List.length_map]; exact hlen) (cv g v) j)⟩
-- arrays
theorem ty0 (g : Gp) : (tyG g)[0]? = some (gA g 0, .int) := rfl
theorem ty1 (g : Gp) : (tyG g)[1]? = some (gA g 1, .byte) := rfl
theorem ty2 (g : Gp) : (tyG g)[2]? = some (gA g 2, .long) := rfl
theorem ty3 (g : Gp) : (tyG g)[3]? = some (gA g 3, .object RX5) := rfl
theorem ty4 (g : Gp) : (tyG g)[4]? = some (gA g 4, .array .int) := rfl
theorem J_iald {f : Nat → Int32} {i : Int32} (hd : decode M.2.1 pc = .ok (.iaload, 1)) (ha : h a = some (.inl (0, n, .inl f))) (hi : vp_in i n) (kk : J g M d tb (pc + 1) ls (.int (f i.toNatClampNeg) :: st) h sz kc ks Q) : J g M d tb pc ls (.int i :: .ref a :: st) h sz kc ks Q := by
  intro p e s m args below meth c R mc ms QF C E H locs cells slots la hH hS hl h1 h2
  rw [List.map_cons, List.map_cons, cv_ref, cv_int, ab_of hH ha]
  exact va_iald C.1 C.2.1 C.2.2.2.2.2.2.1.1 (hP1 hH ha) 0 0 rfl (ty0 g) hi hd (kk p e s m args below meth c R mc ms QF C E H locs cells slots la hH hS hl h1 h2)
theorem J_bald {f : Nat → Int32} {i : Int32} (hd : decode M.2.1 pc = .ok (.baload, 1)) (ha : h a = some (.inl (1, n, .inl f))) (hi : vp_in i n) (kk : J g M d tb (pc + 1) ls (.int (f i.toNatClampNeg) :: st) h sz kc ks Q) : J g M d tb pc ls (.int i :: .ref a :: st) h sz kc ks Q := by
  intro p e s m args below meth c R mc ms QF C E H locs cells slots la hH hS hl h1 h2
  rw [List.map_cons, List.map_cons, cv_ref, cv_int, ab_of hH ha]
  exact va_bald C.1 C.2.1 C.2.2.2.2.2.2.1.1 (hP1 hH ha) 0 1 rfl (ty1 g) hi hd (kk p e s m args below meth c R mc ms QF C E H locs cells slots la hH hS hl h1 h2)
theorem J_lald {f : Nat → Int64} {i : Int32} (hd : decode M.2.1 pc = .ok (.laload, 1)) (ha : h a = some (.inl (2, n, .inr (.inl f)))) (hi : vp_in i n) (kk : J g M d tb (pc + 1) ls (.long (f i.toNatClampNeg) :: st) h sz kc ks Q) : J g M d tb pc ls (.int i :: .ref a :: st) h sz kc ks Q := by
  intro p e s m args below meth c R mc ms QF C E H locs cells slots la hH hS hl h1 h2
  rw [List.map_cons, List.map_cons, cv_ref, cv_int, ab_of hH ha]
  exact va_lald C.1 C.2.1 C.2.2.2.2.2.2.1.1 (hP1 hH ha) 0 2 rfl (ty2 g) hi hd (kk p e s m args below meth c R mc ms QF C E H locs cells slots la hH hS hl h1 h2)
theorem J_alen {t : Nat} {x : vp_B} {w : Int32} (hd : decode M.2.1 pc = .ok (.arraylength, 1)) (ht : t < 5) (ha : h a = some (.inl (t, n, x))) (hw : Int32.ofNat n = w) (kk : J g M d tb (pc + 1) ls (.int w :: st) h sz kc ks Q) : J g M d tb pc ls (.ref a :: st) h sz kc ks Q := by
  intro p e s m args below meth c R mc ms QF C E H locs cells slots la hH hS hl h1 h2
  rw [List.map_cons, cv_ref, ab_of hH ha]
  obtain ⟨ft, hft⟩ : ∃ ft, (tyG g)[t]? = some (gA g t, ft) := by
    match t, ht with
    | 0, _ => exact ⟨_, rfl⟩
    | 1, _ => exact ⟨_, rfl⟩
    | 2, _ => exact ⟨_, rfl⟩
    | 3, _ => exact ⟨_, rfl⟩
    | 4, _ => exact ⟨_, rfl⟩
  exact va_alen C.1 C.2.1 C.2.2.2.2.2.2.1.1 (hP1 hH ha) 0 t rfl hft hw hd (kk p e s m args below meth c R mc ms QF C E H locs cells slots la hH hS hl h1 h2)
theorem J_iast {f : Nat → Int32} {i x : Int32} (hd : decode M.2.1 pc = .ok (.iastore, 1)) (ha : h a = some (.inl (0, n, .inl f))) (hi : vp_in i n) (kk : J g M d tb (pc + 1) ls st (hup h a (.inl (0, n, .inl (upd f i.toNatClampNeg x)))) sz kc ks Q) : J g M d tb pc ls (.int x :: .int i :: .ref a :: st) h sz kc ks Q := by
  intro p e s m args below meth c R mc ms QF C E H locs cells slots la hH hS hl h1 h2
  rw [List.map_cons, List.map_cons, List.map_cons, cv_ref, cv_int, cv_int, ab_of hH ha]
  refine W.iast C.1 C.2.1 (hH.2 a _ ha).2 ((C.2.2.2.2.2.2.1.1.2 0 _ (ty0 g)).1 n (fun j => .int (f j))) (fun q => by cases q) (by show ¬ (i < 0 ∨ (arrV _ _ _).slots.size ≤ _); rw [arrV_size]; exact hi) rfl rfl hd fun H1 e1 z oq => ?_
  refine kk p e s m args below meth c R mc ms QF C E H1 _ cells slots la (hH.put (hH.2 a _ ha).1 z ?_ oq) (hS.put z oq (by show gB g ≤ _; omega)) hl h1 h2
  show H1[gB g + a]? = some (vp_cell _ _)
  rw [e1]
  show some ((vp_cell _ (n, .inl f)).setSlot _ _) = some (vp_cell _ (n, .inl _))
  rw [vp_cell_i, vp_cell_i, arrV_store]
  congr 2
  funext q
  by_cases hq : q = i.toNatClampNeg
  · subst hq
    simp [updV, upd]
  · simp [updV, upd, hq]
theorem J_bast {f : Nat → Int32} {i x : Int32} (hd : decode M.2.1 pc = .ok (.bastore, 1)) (ha : h a = some (.inl (1, n, .inl f))) (hi : vp_in i n) (kk : J g M d tb (pc + 1) ls st (hup h a (.inl (1, n, .inl (upd f i.toNatClampNeg (vp_nar .byte x))))) sz kc ks Q) : J g M d tb pc ls (.int x :: .int i :: .ref a :: st) h sz kc ks Q := by
  intro p e s m args below meth c R mc ms QF C E H locs cells slots la hH hS hl h1 h2
  rw [List.map_cons, List.map_cons, List.map_cons, cv_ref, cv_int, cv_int, ab_of hH ha]
  refine W.bast C.1 C.2.1 (hH.2 a _ ha).2 ((C.2.2.2.2.2.2.1.1.2 1 _ (ty1 g)).1 n (fun j => .int (f j))) (fun q => by cases q) (by show ¬ (i < 0 ∨ (arrV _ _ _).slots.size ≤ _); rw [arrV_size]; exact hi) rfl rfl hd fun H1 e1 z oq => ?_
  refine kk p e s m args below meth c R mc ms QF C E H1 _ cells slots la (hH.put (hH.2 a _ ha).1 z ?_ oq) (hS.put z oq (by show gB g ≤ _; omega)) hl h1 h2
  show H1[gB g + a]? = some (vp_cell _ _)
  rw [e1]
  show some ((vp_cell _ (n, .inl f)).setSlot _ _) = some (vp_cell _ (n, .inl _))
  rw [vp_cell_i, vp_cell_i, arrV_store]
  congr 2
  funext q
  by_cases hq : q = i.toNatClampNeg
  · subst hq
    simp [updV, upd]
    rfl
  · simp [updV, upd, hq]
theorem J_last {f : Nat → Int64} {i : Int32} {x : Int64} (hd : decode M.2.1 pc = .ok (.lastore, 1)) (ha : h a = some (.inl (2, n, .inr (.inl f)))) (hi : vp_in i n) (kk : J g M d tb (pc + 1) ls st (hup h a (.inl (2, n, .inr (.inl (vp_updL f i.toNatClampNeg x))))) sz kc ks Q) : J g M d tb pc ls (.long x :: .int i :: .ref a :: st) h sz kc ks Q := by
  intro p e s m args below meth c R mc ms QF C E H locs cells slots la hH hS hl h1 h2
  rw [List.map_cons, List.map_cons, List.map_cons, cv_ref, cv_int, cv_long, ab_of hH ha]
  refine W.last C.1 C.2.1 (hH.2 a _ ha).2 ((C.2.2.2.2.2.2.1.1.2 2 _ (ty2 g)).1 n (fun j => .long (f j))) (fun q => by cases q) (by show ¬ (i < 0 ∨ (arrV _ _ _).slots.size ≤ _); rw [arrV_size]; exact hi) rfl rfl hd fun H1 e1 z oq => ?_
  refine kk p e s m args below meth c R mc ms QF C E H1 _ cells slots la (hH.put (hH.2 a _ ha).1 z ?_ oq) (hS.put z oq (by show gB g ≤ _; omega)) hl h1 h2
  show H1[gB g + a]? = some (vp_cell _ _)
  rw [e1]
  show some ((vp_cell _ (n, .inr (.inl f))).setSlot _ _) = some (vp_cell _ (n, .inr (.inl _)))
  rw [vp_cell_l, vp_cell_l, arrV_store]
  congr 2
  funext q
  by_cases hq : q = i.toNatClampNeg
  · subst hq
    simp [updV, vp_updL]
  · simp [updV, vp_updL, hq]
end JH
