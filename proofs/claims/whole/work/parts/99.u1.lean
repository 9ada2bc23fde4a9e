/-! ===== making: objects, arrays, rows of rows ===== -/
theorem Hr.push {g : Gp} {h : AH} {sz : Nat} {H H1 : Heap} {e : AE} (hr : Hr g h sz H) (hsz : sz < SB) (hz : H1.size = H.size + 1) (he : va_at (gD g) cls (gB g + sz, cE g e) H1) (ho : ∀ q : Nat, q < H.size → H1[q]? = H[q]?) : Hr g (hup h sz e) (sz + 1) H1 := by
  refine ⟨by rw [hz, hr.1]; omega, fun b x hb => ?_⟩
  by_cases e1 : b = sz
  · subst e1
    rw [hup_s] at hb
    cases hb
    exact ⟨hsz, he⟩
  · rw [hup_n e1] at hb
    obtain ⟨q1, q2⟩ := hr.2 b x hb
    exact ⟨q1, q2.kept (ho _ q2.lt)⟩
theorem vS_push {g : Gp} {s : State} {H H1 : Heap} {locs : List Loc} (hS : va_S (Ag g) s.heap H locs) (hz : H.size ≤ H1.size) (ho : ∀ q : Nat, q < H.size → H1[q]? = H[q]?) : va_S (Ag g) s.heap H1 locs := ⟨Nat.le_trans hS.1 hz, fun x h1 h2 => (ho x (Nat.lt_of_lt_of_le h1 hS.1)).trans (hS.2.1 x h1 h2), hS.2.2⟩
/-- rows of k numbers, n of them, behind their row -/
def hmul (h : AH) (sz n k : Nat) : AH := fun q => if q = sz then some (.inl (4, n, .inr (.inr (.inr (.inr (fun i => if i < n then some (sz + 1 + 1 * i) else none)))))) else if sz < q ∧ q ≤ sz + n then some (.inl (0, k, .inl (fun _ => 0))) else h q
section JNW
variable {g : Gp} {M : Mt} {d pc idx ci n t : Nat} {tb : List ExceptionTableEntry} {ls : List (Option Value)} {st : List Value} {h : AH} {sz kc ks : Nat} {Q : Po} {r : vw_C} {ty : Nat → FieldType} {fs : List Value}
theorem J_new (hd : decode M.2.1 pc = .ok (.new idx, 3)) (K : KC ci r ty) (hcl : InT (.classLink M.1.cls idx r.1)) (hin : InT (.instantiable r.1 r.2.2)) (hini : InT (.initialized r.1)) (fs : List Value) (hcv : ∀ g : Gp, fs.map (cv g) = fs) (hfs : ∀ j, j < r.2.2 → defaultValue (ty j) = vp_V fs j) (hkc : 1 ≤ kc) (hks : r.2.2 ≤ ks) (hsz : sz < SB)
    (kk : J g M d tb (pc + 3) ls (.ref sz :: st) (hup h sz (.inr (ci, fs))) (sz + 1) (kc - 1) (ks - r.2.2) Q) : J g M d tb pc ls st h sz kc ks Q := by
  intro p e s m args below meth c R mc ms QF C E H locs cells slots la hH hS hl h1 h2
  have C0 := C
  obtain ⟨c1, c2, c3, c4, c5, c6, c7, c8, c9, c10, c11, c12, c13⟩ := C
  have hKn := c7.1.1 ci _ K.1
  refine W.newcK c1 c2 c5 (c7.2.1.good hcl.1 hcl.2) (c7.2.1.good hin.1 hin.2) (c7.2.1.good hini.1 hini.2) rfl hd (by omega) (by omega) hKn.2.1 rfl fun H1 kC hkC e1 z1 o1 => ?_
  have hat : va_at (gD g) cls (gB g + sz, cE g (.inr (ci, fs))) H1 := by
    refine ⟨_, K.1, ?_⟩
    show t_OB (gB g + sz) _ _ _ H1 (vp_V (fs.map (cv g)))
    rw [hcv g, ← hH.1]
    exact (u_born ty (args := args) (wd_u K c7) (fun w hw => hw) hKn hkC e1 K.2.2.2).to hfs
  have := kk p e s m args below meth c R mc ms QF C0 E H1 locs (cells + 1) (slots + r.2.2) la (hH.push hsz z1 hat o1) (vS_push hS (by omega) o1) hl (by omega) (by omega)
  rw [List.map_cons, cv_ref, ab_lo hsz, ← hH.1] at this
  exact this
theorem J_na {atp : ArrayType} {x : Int32} {z : vp_B} (hd : decode M.2.1 pc = .ok (.newarray atp, 2)) (ht : (tyG g)[t]? = some (gA g t, newarray.typeOf atp)) (hra : ∀ s : State, va_RA s (gA g t) (newarray.typeOf atp) → s.vm.findClass ("[" ++ (newarray.typeOf atp).toString) = some (gA g t)) (harr : InT (.arrayClass (newarray.typeOf atp))) (hx : x.toNatClampNeg = n ∧ ¬ x < 0) (hb : n * componentBytes (newarray.typeOf atp) ≤ 536870912) (hz : ∀ cA : ClassId, vp_cell cA (n, cc1 g z) = arrV cA n (fun _ => defaultValue (newarray.typeOf atp))) (hkc : 1 ≤ kc) (hks : n ≤ ks) (hsz : sz < SB)
    (kk : J g M d tb (pc + 2) ls (.ref sz :: st) (hup h sz (.inl (t, n, z))) (sz + 1) (kc - 1) (ks - n) Q) : J g M d tb pc ls (.int x :: st) h sz kc ks Q := by
  intro p e s m args below meth c R mc ms QF C E H locs cells slots la hH hS hl h1 h2
  have C0 := C
  obtain ⟨c1, c2, c3, c4, c5, c6, c7, c8, c9, c10, c11, c12, c13⟩ := C
  refine va_newaK c1 c2 (c7.2.1.good harr.1 harr.2) rfl hd rfl hx.2 hx.1 hb (by omega) (by omega) rfl fun H1 cA e1 z1 o1 _ hNm => ?_
  have ecA : cA = gA g t := Option.some.inj (hNm.symm.trans (hra s (c7.1.2 t _ ht).2))
  subst ecA
  have hat : va_at (gD g) cls (gB g + sz, cE g (.inl (t, n, z))) H1 := by
    show H1[gB g + sz]? = some (vp_cell (gA g t) (n, cc1 g z))
    rw [hz, ← hH.1]
    exact e1
  have := kk p e s m args below meth c R mc ms QF C0 E H1 locs (cells + 1) (slots + n) la (hH.push hsz z1 hat o1) (vS_push hS (by omega) o1) hl (by omega) (by omega)
  rw [List.map_cons, cv_ref, ab_lo hsz, ← hH.1] at this
  exact this
theorem J_anew {x : Int32} (hd : decode M.2.1 pc = .ok (.anewarray idx, 3)) (hcl : InT (.classLink M.1.cls idx RX5)) (hx : x.toNatClampNeg = n ∧ ¬ x < 0) (hb : n * 4 ≤ 536870912) (hkc : 1 ≤ kc) (hks : n ≤ ks) (hsz : sz < SB)
    (kk : J g M d tb (pc + 3) ls (.ref sz :: st) (hup h sz (.inl (3, n, .inr (.inr (.inr (.inr (fun _ => none))))))) (sz + 1) (kc - 1) (ks - n) Q) : J g M d tb pc ls (.int x :: st) h sz kc ks Q := by
  intro p e s m args below meth c R mc ms QF C E H locs cells slots la hH hS hl h1 h2
  have C0 := C
  obtain ⟨c1, c2, c3, c4, c5, c6, c7, c8, c9, c10, c11, c12, c13⟩ := C
  obtain ⟨hx1, hx2⟩ := hx
  subst hx1
  have hover : va_AO RX5 s := by
    obtain ⟨-, -, -, -, -, -, -, -, -, -, -, h5, -⟩ := c7
    exact h5
  refine W.anew c1 c2 c5 (c7.2.1.good hcl.1 hcl.2) (va_AO.use hover) rfl hd rfl hx2 hb (by omega) (by omega) fun cA kA comp f1 f2 f3 f4 => ?_
  generalize hH1 : H.push ({ cls := cA, slots := Array.replicate x.toNatClampNeg .null, vm := .none } : Cell) = H1
  have z1 : H1.size = H.size + 1 := by rw [← hH1, Array.size_push]
  have e1 : H1[H.size]? = some (arrV cA x.toNatClampNeg (fun _ => .null)) := by rw [← hH1, Array.getElem?_push_size, ← arrV_new]
  have o1 : ∀ q : Nat, q < H.size → H1[q]? = H[q]? := fun q hq => by rw [← hH1, Array.getElem?_push, if_neg (Nat.ne_of_lt hq)]
  obtain ⟨kA', comp', r1, r2, r3, r4⟩ := (c7.1.2 3 _ rfl).2
  have ecA : cA = gA g 3 := Option.some.inj (f1.symm.trans r4)
  subst ecA
  have hat : va_at (gD g) cls (gB g + sz, cE g (.inl (3, x.toNatClampNeg, .inr (.inr (.inr (.inr (fun _ => none))))))) H1 := by
    show H1[gB g + sz]? = _
    rw [← hH.1]
    exact e1
  have := kk p e s m args below meth c R mc ms QF C0 E H1 locs (cells + 1) (slots + x.toNatClampNeg) la (hH.push hsz z1 hat o1) (vS_push hS (by omega) o1) hl (by omega) (by omega)
  rw [List.map_cons, cv_ref, ab_lo hsz, ← hH.1] at this
  exact this
theorem J_obj {a : Nat} (hd : decode M.2.1 pc = .ok (.invokespecial idx, 3)) (hm : InT (.methodLink M.1.cls idx Lib.objectInit)) (hi : InT (.instanceMethod Lib.objectInit)) (hc : InT (.code Lib.objectInit ⟨#[0xb1]⟩ 1 none)) (hcat : (st.map fun v => v.category).sum ≤ 8) (kk : J g M d tb (pc + 3) ls st h sz kc ks Q) : J g M d tb pc ls (.ref a :: st) h sz kc ks Q := by
  intro p e s m args below meth c R mc ms QF C E H locs cells slots la hH hS hl h1 h2
  have hk := kk p e s m args below meth c R mc ms QF C E H locs cells slots la hH hS hl h1 h2
  obtain ⟨c1, c2, c3, c4, c5, c6, c7, c8, c9, c10, c11, c12, c13⟩ := C
  refine W.objInit c1 c2 c5 (c7.2.1.good hm.1 hm.2) (c7.2.1.good hi.1 hi.2) (c7.2.1.good hc.1 hc.2) rfl (hl.1.trans c3.symm) (a := ab g a) (rest := st.map (cv g)) rfl hd (by omega) ?_ hk
  show 2 * 0 + ((st.map (cv g)).map fun v => v.category).sum + 12 ≤ R.locals
  rw [cat_map]
  omega
theorem J_aast {a v : Nat} {f : Nat → Option Nat} {x : Int32} {vs : List Value} (hd : decode M.2.1 pc = .ok (.aastore, 1)) (ha : h a = some (.inl (3, n, .inr (.inr (.inr (.inr f)))))) (hv : h v = some (.inr (5, vs))) (hi : vp_in x n) (kk : J g M d tb (pc + 1) ls st (hup h a (.inl (3, n, .inr (.inr (.inr (.inr (va_up f x.toNatClampNeg (some v)))))))) sz kc ks Q) : J g M d tb pc ls (.ref v :: .int x :: .ref a :: st) h sz kc ks Q := by
  intro p e s m args below meth c R mc ms QF C E H locs cells slots la hH hS hl h1 h2
  have C0 := C
  obtain ⟨c1, c2, c3, c4, c5, c6, c7, c8, c9, c10, c11, c12, c13⟩ := C
  rw [List.map_cons, List.map_cons, List.map_cons, cv_ref, cv_int, cv_ref, ab_of hH ha, ab_of hH hv]
  have hlt := vr_len hi
  have hi0 : ¬ x < 0 := fun q => hi (Or.inl q)
  have A1 := (hH.2 a _ ha).2
  obtain ⟨r', hr', cellV, g1, g2, g3, -⟩ := (hH.2 v _ hv).2
  have hcls := (c7.1.1 5 _ rfl).2
  obtain ⟨kA, comp, k1, k2, k3, -⟩ := (c7.1.2 3 _ rfl).2
  have hcomp : comp = (gD g).1 5 := Option.some.inj (k3.symm.trans hcls.1)
  subst hcomp
  obtain ⟨kC, hkC, -⟩ := hcls.2
  refine W.aast c1 c2 A1 (fun q h => by cases h) (fun h => by cases h) k1 k2 rfl hkC ⟨hi0, by show _ < (arrV _ _ _).slots.size; rw [arrV_size]; exact hlt⟩ g1 (fun q h => by rw [g3] at h; cases h) (by rw [g2]; exact hkC) (by rw [g2]; exact va_assign hcls) rfl rfl hd fun H1 e1 z oq => ?_
  have hat : va_at (gD g) cls (gB g + a, cE g (.inl (3, n, .inr (.inr (.inr (.inr (va_up f x.toNatClampNeg (some v)))))))) H1 := by
    show H1[gB g + a]? = some (vp_cell _ _)
    rw [e1]
    show some ((vp_cell (gA g 3) (n, .inr (.inr (.inr (.inr (fun i => (f i).map (ab g))))))).setSlot _ _) = some (vp_cell (gA g 3) (n, .inr (.inr (.inr (.inr (fun i => (va_up f x.toNatClampNeg (some v) i).map (ab g)))))))
    rw [vp_cell_q, vp_cell_q, arrV_store]
    congr 2
    funext q
    by_cases hq : q = x.toNatClampNeg
    · subst hq
      simp [updV, va_up, va_rf, ab_of hH hv]
    · simp [updV, va_up, hq]
  exact kk p e s m args below meth c R mc ms QF C0 E H1 _ cells slots la (hH.put (hH.2 a _ ha).1 z hat oq) (hS.put z oq (by show gB g ≤ gB g + a; omega)) hl h1 h2
theorem J_mna {x y : Int32} {k : Nat} (hd : decode M.2.1 pc = .ok (.multianewarray idx 2, 4)) (hcl : InT (.classLink M.1.cls idx ("[" ++ (FieldType.array .int).toString))) (harr : InT (.arrayClass .int)) (hx : x.toNatClampNeg = n ∧ ¬ x < 0) (hy : y.toNatClampNeg = k ∧ ¬ y < 0) (hb : n * 4 ≤ 536870912 ∧ k * 4 ≤ 536870912) (hkc : 1 + n ≤ kc) (hks : n + n * k ≤ ks) (hsz : sz + n < SB)
    (kk : J g M d tb (pc + 4) ls (.ref sz :: st) (hmul h sz n k) (sz + 1 + n) (kc - (1 + n)) (ks - (n + n * k)) Q) : J g M d tb pc ls (.int y :: .int x :: st) h sz kc ks Q := by
  intro p e s m args below meth c R mc ms QF C E H locs cells slots la hH hS hl h1 h2
  have C0 := C
  obtain ⟨c1, c2, c3, c4, c5, c6, c7, c8, c9, c10, c11, c12, c13⟩ := C
  obtain ⟨hx1, hx2⟩ := hx
  obtain ⟨hy1, hy2⟩ := hy
  subst hx1
  subst hy1
  have hover : (Cond.arrayOver (.array .int)).before args s = true := by
    obtain ⟨-, -, -, -, -, -, -, -, -, -, -, -, h6⟩ := c7
    exact h6
  intro T hT Xs
  obtain ⟨vm₁, cA, comp, -, fA, fC, -, -, X', step⟩ := Xs.multianewarray2F c1 c5 (c7.2.1.good hcl.1 hcl.2) hover (c7.2.1.good harr.1 harr.2) (g := F0 m pc la (.int y :: .int x :: st.map (cv g))) rfl (by rw [c2]; exact hd) rfl hx2 hy2 hb.1 hb.2 (by omega) rfl rfl (by omega) (by omega)
  have ecA : cA = gA g 4 := Option.some.inj (fA.symm.trans (c7.1.2 4 _ rfl).2)
  have ecC : comp = gA g 0 := Option.some.inj (fC.symm.trans (c7.1.2 0 _ rfl).2)
  subst ecA
  subst ecC
  generalize hF : Jvm.Free.Multi.fill (T.setVm vm₁) (gA g 4) (gA g 0) x.toNatClampNeg y.toNatClampNeg (defaultValue .int) x.toNatClampNeg = F at X' step
  have hTh : (T.setVm vm₁).heap = H := hT
  obtain ⟨f1, f2, -, -⟩ := Jvm.Free.Multi.fill_facts (T.setVm vm₁) (gA g 4) (gA g 0) x.toNatClampNeg y.toNatClampNeg (defaultValue .int) x.toNatClampNeg
  rw [hF, hTh] at f1 f2
  have hold : ∀ q : Nat, q < H.size → F.heap[q]? = H[q]? := fun q hq => by
    have := Jvm.Free.Multi.fill_old (T.setVm vm₁) (gA g 4) (gA g 0) x.toNatClampNeg y.toNatClampNeg (defaultValue .int) (a := q) (by rw [hTh]; exact hq) x.toNatClampNeg
    rw [hF, hTh] at this
    exact this
  have hrow : ∀ j : Nat, j < x.toNatClampNeg → F.heap[H.size + 1 + j]? = some (arrV (gA g 0) y.toNatClampNeg (fun _ => .int 0)) := fun j hj => by
    have := Jvm.Free.Multi.fill_inner (T.setVm vm₁) (gA g 4) (gA g 0) x.toNatClampNeg y.toNatClampNeg (defaultValue .int) x.toNatClampNeg j hj
    rw [hF, hTh] at this
    rw [this, ← arrV_new]
    rfl
  rw [vr_outer] at f2
  have hHF : Hr g (hmul h sz x.toNatClampNeg y.toNatClampNeg) (sz + 1 + x.toNatClampNeg) F.heap := by
    refine ⟨by rw [f1, hH.1]; omega, fun b w hb' => ?_⟩
    unfold hmul at hb'
    by_cases q1 : b = sz
    · rw [if_pos q1] at hb'
      cases hb'
      subst q1
      refine ⟨by omega, ?_⟩
      show F.heap[gB g + b]? = some (vp_cell (gA g 4) (x.toNatClampNeg, .inr (.inr (.inr (.inr (fun i => (if i < x.toNatClampNeg then some (b + 1 + 1 * i) else none).map (ab g)))))))
      rw [vp_cell_q, ← hH.1, f2]
      congr 2
      funext j
      by_cases hj : j < x.toNatClampNeg
      · rw [if_pos hj, if_pos hj]
        show Value.ref (H.size + 1 + j) = .ref (ab g (b + 1 + 1 * j))
        have h9 := hH.1
        rw [ab_lo (by omega), h9]
        exact congrArg Value.ref (show (gB g + b + 1 + j : Nat) = gB g + (b + 1 + 1 * j) by omega)
      · rw [if_neg hj, if_neg hj]
        rfl
    · rw [if_neg q1] at hb'
      by_cases q2 : sz < b ∧ b ≤ sz + x.toNatClampNeg
      · rw [if_pos q2] at hb'
        cases hb'
        refine ⟨by omega, ?_⟩
        show F.heap[gB g + b]? = some (vp_cell (gA g 0) (y.toNatClampNeg, .inl (fun _ => 0)))
        rw [vp_cell_i]
        have := hrow (b - sz - 1) (by omega)
        rw [hH.1, show gB g + sz + 1 + (b - sz - 1) = gB g + b by omega] at this
        exact this
      · rw [if_neg q2] at hb'
        obtain ⟨r1, r2⟩ := hH.2 b w hb'
        exact ⟨r1, r2.kept (hold _ r2.lt)⟩
  have := kk p e s m args below meth c R mc ms QF C0 E F.heap locs (cells + 1 + x.toNatClampNeg) (slots + x.toNatClampNeg + x.toNatClampNeg * y.toNatClampNeg) la hHF (vS_push hS (by omega) hold) hl (by omega) (by omega)
  rw [List.map_cons, cv_ref, ab_lo (by omega), ← hH.1, ← hT] at this
  obtain ⟨t2, a1, b1⟩ := this F rfl X'
  exact ⟨t2, step _ a1, b1⟩
end JNW
