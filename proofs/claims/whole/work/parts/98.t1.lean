/-! ===== throws: an exception whose constructor calls its super by any pool entry ===== -/
section VY
variable {p : Program} {l : Launch} {e : Env} {R : Room} {s : State} {m : MethodId} {args : Array Value} {below : List Frame} {meth : Method} {c : Code} {T : State} {locs : List Loc} {cells slots : Nat}
set_option maxHeartbeats 1000000 in
theorem vy_ctor (X : Stand p l e R s m args below meth c T locs cells slots) (hexec : p.tables.exec = Jvm.exec) (htr : e.platform.stackTraces = false) {own cls : String} {names : List String} {ic ix : Nat} {rx : ByteArray}
    (x0 : decode rx 0 = .ok (.aload_n 0, 1)) (x1 : decode rx 1 = .ok (.aload_n 1, 1)) (x2 : decode rx 2 = .ok (.invokespecial ix, 3)) (x5 : decode rx 5 = .ok (.return_, 1))
    (hown : s.vm.findClass own = some m.cls) (hcls : Bundle.fit cls = true) (hnames : ∀ n ∈ names, Bundle.fit n = true)
    (h : ∀ w ∈ Bundle.ownAtomsX own ic cls ix rx names, w.before args s = true)
    (hlocs : ∀ x ∈ locs, ∀ cell, s.heap[x.base]? = some cell → cell.vm.isStatics = false)
    {a : Addr} {cX : ClassId} {kX : Class} (hfX : s.vm.findClass cls = some cX) (hkX : s.vm.classes[cX]? = some kX) (hcell : T.heap[a]? = some (freshCell cX kX)) (hnew : s.heap.size ≤ a)
    {msg : Value} (hmsg : msg.isRef = true)
    {g : JFrame} (hg : g.method = m) (hsize : g.locals.size = c.maxLocals) (hlocked : g.locked = none) (hentered : g.entered = []) {rest : List Value} (hstack : g.stack = msg :: .ref a :: .ref a :: rest)
    (hd1 : decode c.code g.pc = .ok (.invokespecial ic, 3)) (hd2 : decode c.code (g.pc + 3) = .ok (.athrow, 1)) (hout : ∀ x ∈ c.exceptionTable.toList, covers x (g.pc + 3) = false)
    (hRf : names.length + 3 < R.frames) (hRl : 2 * g.monitorRoom + ((Value.ref a :: rest).map fun v => v.category).sum + (13 * (names.length + 1) + 42) ≤ R.locals) (hlocks : meth.locks = false) :
    ∃ U : State, Steps p.tables e below (T.setTop g) U ∧ U.status = .running ∧ Ended U below (.threw a) ∧ s.WarmedH U.vm ∧ s.sameButNew ({ U with vm := s.vm } : State) locs cells slots ∧
      ∃ ce, U.heap[a]? = some ce ∧ ce.cls = cX ∧ ce.vm = .none := by
  have pf1 : e.platform.frameOwnsMonitors = true := by rw [X.admits.platform]
  have pf2 : e.platform.finalization = false := by rw [X.admits.platform]
  have pf3 : e.platform.magicAccessors = ({} : Platform).magicAccessors := by rw [X.admits.platform]
  have hh : ∀ w, w ∈ Bundle.ownAtomsX own ic cls ix rx names → w.holds args s none s [] = true := fun w hw => h w hw
  obtain ⟨B, B0, L, -, Y⟩ := ThrowableC.of_atoms (args := args) pf1 pf2 pf3 (fun w hw => h w (by simp [Bundle.ownAtomsX, hw]))
  obtain ⟨Z, N, LZ, LN, hnZ⟩ := Init0T.ofS_atoms (args := args) pf3 L Y (fun w hw => h w (by simp [Bundle.ownAtomsX, hw]))
  obtain ⟨P1, Ps, hlen, L1, hL, hP1, k1, k2⟩ := Bundle.chainSX (args := args) pf3 hnZ x0 x1 x2 x5 names cls hcls hnames (fun w hw => h w (by simp [Bundle.ownAtomsX, hw]))
  have hf : s.vm.findClass cls = some P1.m.cls := findClass_of_methodNamed hP1
  cases Option.some.inj (hfX.symm.trans hf)
  obtain ⟨c1, kX', hc1, hk, hord, -, -, hn6⟩ := Cond.instantiable_spec (hh (.instantiable cls 6) (by simp [Bundle.ownAtomsX]))
  cases Option.some.inj (hc1.symm.trans hf)
  cases Option.some.inj (hkX.symm.trans hk)
  have s0 : selectMethod e.platform s.vm P1.m.cls B.fill0 = .method B.fill0 := by
    obtain ⟨c2, r2, m2, q1, q2, q3, q4, -⟩ := Cond.selects_spec (hh (.selects cls Bundle.tFill0 Bundle.tFill0) (by simp [Bundle.ownAtomsX]))
    cases Option.some.inj (q1.symm.trans hf)
    cases Option.some.inj (q2.symm.trans (State.methodFound?_of_named Y.fill0 (by decide)))
    cases Option.some.inj (q3.symm.trans Y.fill0)
    rw [Launch.admits_selectMethod X.admits]; exact q4
  have s1 : selectMethod e.platform s.vm P1.m.cls B.fill = .method B.fill := by
    obtain ⟨c2, r2, m2, q1, q2, q3, q4, -⟩ := Cond.selects_spec (hh (.selects cls Bundle.tFill Bundle.tFill) (by simp [Bundle.ownAtomsX]))
    cases Option.some.inj (q1.symm.trans hf)
    cases Option.some.inj (q2.symm.trans (State.methodFound?_of_named Y.fill (by decide)))
    cases Option.some.inj (q3.symm.trans Y.fill)
    rw [Launch.admits_selectMethod X.admits]; exact q4
  obtain ⟨z0, hz0, hzs⟩ := Y.statics
  obtain ⟨u0, hu0⟩ := Cond.staticRefV Y.unassigned L.unassignedStatic L.statics hz0 hzs (hh (.isRef (.static Bundle.tN "UNASSIGNED_STACK" Bundle.steD)) (by simp [Bundle.ownAtomsX]))
  obtain ⟨sen, hsen⟩ := Cond.staticRefV Y.sentinel L.sentinelStatic L.statics hz0 hzs (hh (.isRef (.static Bundle.tN "SUPPRESSED_SENTINEL" Bundle.listD)) (by simp [Bundle.ownAtomsX]))
  obtain ⟨ci198, i198, fB, b1, b2, b3, b4, -, b5, b6, b7⟩ := Cond.ownField (t := .object "java/lang/Object") Y.found L.cls (by decide +kernel) (hh (.fieldLink Bundle.tN 198 Bundle.tN "backtrace" "Ljava/lang/Object;") (by simp [Bundle.ownAtomsX])) (hh (.lays Bundle.tN Bundle.tN "backtrace" "Ljava/lang/Object;") (by simp [Bundle.ownAtomsX])) e.platform pf3
  obtain ⟨z1, hz1, ez, -, keep⟩ := X.same.2.2.2.2.2 B.aS z0 hz0
  have hzT : T.heap[B.aS]? = some z1 := hz1
  have hno : ∀ i, (⟨B.aS, i⟩ : Loc) ∉ locs := fun i hm => by
    have := hlocs _ hm z0 hz0
    rw [hzs] at this; cases this
  have hzk : z1.vm ≠ .unknown := by
    rw [ez]; intro hu
    rw [show z0.vm = .unknown from hu] at hzs
    cases hzs
  have hne : B.aS ≠ a := Nat.ne_of_lt (Nat.lt_of_lt_of_le (Array.getElem?_eq_some_iff.mp hz0).1 hnew)
  obtain ⟨iM, hM⟩ := Y.msg
  obtain ⟨tC, dC, eC, nC⟩ := Cond.laysAt hf hk Y.cause (hh (.lays cls Bundle.tN "cause" "Ljava/lang/Throwable;") (by simp [Bundle.ownAtomsX]))
  obtain ⟨tS, dS, eS, nS⟩ := Cond.laysAt hf hk Y.stack (hh (.lays cls Bundle.tN "stackTrace" Bundle.steD) (by simp [Bundle.ownAtomsX]))
  obtain ⟨tP, dP, eP, nP⟩ := Cond.laysAt hf hk Y.supp (hh (.lays cls Bundle.tN "suppressedExceptions" Bundle.listD) (by simp [Bundle.ownAtomsX]))
  obtain ⟨tM, dM, eM, nM⟩ := Cond.laysAt hf hk hM (hh (.lays cls Bundle.tN "detailMessage" "Ljava/lang/String;") (by simp [Bundle.ownAtomsX]))
  obtain ⟨tB, dB, eB, nB⟩ := Cond.laysAt hf hk b7 (hh (.lays cls Bundle.tN "backtrace" "Ljava/lang/Object;") (by simp [Bundle.ownAtomsX]))
  have aC := Cond.laysApart eB eC nB nC (by rw [b5, Y.causeName]; decide)
  have aS := Cond.laysApart eB eS nB nS (by rw [b5, Y.stackName]; decide)
  have aP := Cond.laysApart eB eP nB nP (by rw [b5, Y.suppName]; decide)
  have hskip : SkipFacts B e.platform s (fun u => u) u0 ((preparedCellV B.toThrowableT (freshCell P1.m.cls kX) a u0 sen).withEntry T.cur) :=
    ⟨{ ci198 := ci198, i198 := i198, fBack := fB }, ⟨b1, b2, b3, b4⟩, by
      have := fresh_default (c := P1.m.cls) tB
      rw [b6] at this
      simpa [preparedCellV, Cell.setSlot, Cell.withEntry, Array.getElem?_setIfInBounds, aC, aS, aP, aC.symm, aS.symm, aP.symm, defaultValue] using this, fun _ _ => rfl⟩
  obtain ⟨tm, mC, cdC, kC, vm1, hnC, -, -, -, -, -, -, -, hW1, st1⟩ := Steps.initColdS (tb := p.tables) (e := e) (below := below) (s := s) (U := T) X.here hexec X.warmed pf3 hown (t := Bundle.initS cls) rfl rfl (Bundle.fit_spec hcls).2
    (hh (.methodLink own ic (Bundle.initS cls)) (by simp [Bundle.ownAtomsX])) (h (.instanceMethod (Bundle.initS cls)) (by cases names <;> simp [Bundle.ownAtomsX, Bundle.chainSAtomsX, Bundle.passSAtoms])) (bytes := rx) (maxL := 2) (h (.code (Bundle.initS cls) rx 2 none) (by cases names <;> simp [Bundle.ownAtomsX, Bundle.chainSAtomsX, Bundle.passSAtoms]))
    (f := g) hg (a := a) (msg := msg) (rest := .ref a :: rest) hstack hd1
  cases Option.some.inj (hnC.symm.trans hP1)
  have X1 := X.noted hW1
  obtain ⟨vm2, X2, st2⟩ := X1.ctorMessageOffV hexec (g := { g with stack := .ref a :: rest }) hg hsize B L Z LZ N LN (P1 :: Ps)
    (fun P hP => by rcases List.mem_cons.mp hP with rfl | hP; exact L1; exact hL P hP) ⟨k1, k2⟩ (u0 := u0) (sen := sen) (self := a) hmsg (cell := freshCell P1.m.cls kX) (cellS := z1)
    hcell (fun _ => by simp) (by simp) rfl rfl s0 s1 hzT hne hzk (by rw [keep _ (hno _)]; exact hu0) (by rw [keep _ (hno _)]; exact hsen)
    (Takes.of_laid hk hord tC (by rw [Y.causeType]; rfl)) (Takes.of_laid hk hord tS (by rw [Y.stackType]; exact fits_refV_array _ u0)) (Takes.of_laid hk hord tP (by rw [Y.suppType]; exact fits_refV_object _ sen))
    (Takes.of_laid hk hord tM (by rw [Y.msgType]; exact fits_refV_object _ ⟨msg, hmsg⟩)) Y.objLocals hskip htr [] hd1
    (by simp only [List.length_cons, hlen]; omega) (by simp only [List.length_cons, hlen]; exact hRl)
  obtain ⟨w1, w2, w3, w4, w5⟩ := X2.athrowLeaves hexec (g := { g with stack := .ref a :: rest, pc := g.pc + 3 }) hg hlocked hentered hout (a := a) (rest := rest) rfl hd2
  have hlt : a < ((T.setVm vm1).setVm vm2).heap.size := (Array.getElem?_eq_some_iff.mp hcell).1
  have hU := heapAt_setCell_self (s := (T.setVm vm1).setVm vm2) (plainBareV B.toThrowableT (freshCell P1.m.cls kX) a u0 sen msg) hlt
  refine ⟨_, st1 _ (fun acts => ?_), w2, w3, w4, w5.weaken (fun y hy hlt' => ?_) (Nat.le_refl _) (Nat.le_refl _), _, hU, rfl, rfl⟩
  · rw [doInvoke_state]
    exact st2 _ w1
  · rcases List.mem_append.mp hy with q | q
    · exact q
    · exfalso
      have hb : y.base = a := by
        simp only [List.mem_cons, List.not_mem_nil, or_false] at q
        rcases q with rfl | rfl | rfl | rfl | rfl <;> rfl
      rw [hb] at hlt'
      exact Nat.not_lt.mpr hnew hlt'
end VY
/-- a word of the tables, or one that follows -/
def AtW (w : Cond) : Prop := InT w ∨ (∃ x b n r, w = .declares x ∧ InT (.instanceMethod x) ∧ InT (.code x b n r)) ∨ (∃ X n, w = .castable X X ∧ InT (.instantiable X n))
theorem dc_of {x : MethodName} {b : ByteArray} {n : Nat} {r : Option FieldType} {args : Array Value} {s : State} (h1 : (Cond.instanceMethod x).before args s = true) (h2 : (Cond.code x b n r).before args s = true) : (Cond.declares x).before args s = true := by
  obtain ⟨m, meth, hn, hm, hst, -⟩ := Cond.instanceMethod_spec h1
  obtain ⟨meth', code, hm', -, -, -, -, -, -, hsig⟩ := Cond.code_spec hn h2
  cases hm.symm.trans hm'
  simp [Cond.before, Cond.holds, Cond.value, hn, hm, hst, hsig]
theorem cb_self {X : String} {n : Nat} {args : Array Value} {s : State} (h : (Cond.instantiable X n).before args s = true) : (Cond.castable X X).before args s = true := by
  obtain ⟨c1, k, hc1, hk, -⟩ := Cond.instantiable_spec h
  have ha : s.vm.assignable c1 c1 = true := by
    show s.vm.assignableAux _ c1 c1 = true
    unfold Vm.assignableAux
    simp
  simp [Cond.before, Cond.holds, Cond.value, hc1, ha]
theorem AtW.use {w : Cond} {args : Array Value} {s : State} (h : AtW w) (hW : Wd s) : w.before args s = true := by
  rcases h with h | ⟨x, b, n, r, rfl, h1, h2⟩ | ⟨X, n, rfl, h1⟩
  · exact hW.good h.1 h.2
  · exact dc_of (hW.good h1.1 h1.2) (hW.good h2.1 h2.2)
  · exact cb_self (hW.good h1.1 h1.2)
section JTH
variable {g : Gp} {M : Mt} {d pc i ik is ic ix : Nat} {ls : List (Option Value)} {rest : List Value} {h : AH} {sz kc ks : Nat} {Q : Po} {cls text : String} {names : List String} {rx : ByteArray}
/-- new, dup, ldc_w, invokespecial, athrow -/
theorem J_thr (hl : (gl g).stackTraces = false) (hM : isLaw M = false) (hcls : Bundle.fit cls = true) (hnames : ∀ n ∈ names, Bundle.fit n = true) (hnl : names.length ≤ 3)
    (hk : InT (.classLink M.1.cls ik cls)) (hini : InT (.initialized cls)) (hi : strN[i]? = some (M.1.cls, is, text)) (hat : ∀ w ∈ (Bundle.ownAtomsX M.1.cls ic cls ix rx names).filter vx_no, AtW w)
    (x0 : decode rx 0 = .ok (.aload_n 0, 1)) (x1 : decode rx 1 = .ok (.aload_n 1, 1)) (x2 : decode rx 2 = .ok (.invokespecial ix, 3)) (x5 : decode rx 5 = .ok (.return_, 1))
    (d0 : decode M.2.1 pc = .ok (.new ik, 3)) (d3 : decode M.2.1 (pc + 3) = .ok (.dup, 1)) (d4 : decode M.2.1 (pc + 4) = .ok (.ldc_w is, 3)) (d7 : decode M.2.1 (pc + 7) = .ok (.invokespecial ic, 3)) (d10 : decode M.2.1 (pc + 10) = .ok (.athrow, 1))
    (hcat : (rest.map fun v => v.category).sum ≤ 8) (hkc : 1 ≤ kc) (hks : 6 ≤ ks) (hq : ∀ sz', sz ≤ sz' → Q (.inr cls) h sz') : J g M d [] pc ls rest h sz kc ks Q := by
  intro p e s m args below meth c R mc ms QF C E H locs cells slots la hH hS hlr h1 h2
  obtain ⟨hexec, hb, hml, -, hown, hlocks, hSr, hR1, hR2, hR3, hR4, htb, -⟩ := C
  rcases E with ⟨-, rfl⟩ | ⟨E, -⟩
  rotate_left
  · rw [hM] at E; cases E
  obtain ⟨-, hWd, -, hstr0, hU, hN, -⟩ := hSr
  have hstr := hstr0 i _ hi
  have hout : ∀ x ∈ c.exceptionTable.toList, covers x (pc + 10) = false := fun x hx => by rw [htb] at hx; cases hx
  intro T hT X
  have htr : e.platform.stackTraces = false := (show e.platform.stackTraces = (gl g).stackTraces by rw [X.admits.platform]).trans hl
  have Y := vx_rebase X (R' := { frames := R.frames, locals := R.locals, cells := 1, slots := 6 }) (Nat.le_refl _) (Nat.le_refl _) (by show cells + 1 ≤ R.cells; omega) (by show slots + 6 ≤ R.slots; omega)
  obtain ⟨s', hA⟩ : ∃ z, z = (T.setVm s.vm).setFrames (.invoking m args :: below) := ⟨_, rfl⟩
  rw [← hA] at Y
  have hvm : s'.vm = s.vm := by rw [hA]; rfl
  have hhp : s'.heap = H := by rw [hA]; exact hT
  have hW0 : s.WarmedH s'.vm := by rw [hvm]; exact State.WarmedH.refl s
  have hWd' : Wd s' := Wd.warm hW0 hWd
  have hU' : vx_Zq Bundle.tN "UNASSIGNED_STACK" Bundle.steD (Ag g) s' s'.heap := by rw [hhp]; exact vx_Zq.moved hW0.alike (hU.kept hS.2.1)
  have hN' : vx_Zq Bundle.tN "SUPPRESSED_SENTINEL" Bundle.listD (Ag g) s' s'.heap := by rw [hhp]; exact vx_Zq.moved hW0.alike (hN.kept hS.2.1)
  have hw : ∀ w ∈ Bundle.ownAtomsX M.1.cls ic cls ix rx names, w.before args s' = true := vx_own (fun w hw => (hat w hw).use hWd') (vx_isRefq hU'.1) (vx_isRefq hN'.1) hU'.2.word hN'.2.word
  have hown' : s'.vm.findClass M.1.cls = some m.cls := by rw [hvm]; exact hown
  have hins : (Cond.instantiable cls 6).before args s' = true := hw _ (by simp [Bundle.ownAtomsX])
  obtain ⟨vm₁, cX, kX, hfX, hkX, -, -, X₁, st1⟩ := Y.newCold hexec (own := M.1.cls) (C := cls) (index := ik) (n := 6) hown' (hWd'.good hk.1 hk.2) hins (hWd'.good hini.1 hini.2)
    (g := F0 m pc la (rest.map (cv g))) rfl (by rw [hb]; exact d0) (Nat.le_refl _) (Nat.le_refl _)
  generalize hT1 : (T.setVm vm₁).pushCell { cls := cX, slots := kX.instanceTypes.map defaultValue, vm := .none } = T1 at X₁ st1
  have hcellA : T1.heap[T.heap.size]? = some (freshCell cX kX) := by rw [← hT1]; exact State.heap_pushCell_size _ _
  have d3' : decode c.code (pc + 3) = .ok (.dup, 1) := by rw [hb]; exact d3
  have d4' : decode c.code (pc + 4) = .ok (.ldc_w is, 3) := by rw [hb]; exact d4
  have hstr' : vk_R M.1.cls is text (gK g i) s' := vk_R.warm hW0 hstr
  have hc2 : ((rest.map (cv g)).map fun v => v.category).sum ≤ 8 := by rw [cat_map]; exact hcat
  obtain ⟨U, hsteps, hrun, hend, hW, hsame, ce, hce, hcc, hcv⟩ := vy_ctor X₁ hexec htr (own := M.1.cls) (cls := cls) (names := names) (ic := ic) x0 x1 x2 x5 hown' hcls hnames hw (fun x hx => nomatch hx) hfX hkX hcellA (by rw [hhp, hT]; exact Nat.le_refl _) (msg := .ref (gK g i)) rfl
    (g := { method := m, pc := pc + 7, locals := la, stack := .ref (gK g i) :: .ref T.heap.size :: .ref T.heap.size :: rest.map (cv g), locked := none }) rfl (hlr.1.trans hml.symm) rfl rfl (rest := rest.map (cv g)) rfl
    (by rw [hb]; exact d7) (by rw [hb]; exact d10) hout (by show names.length + 3 < R.frames; omega)
    (by
      show 2 * 0 + (1 + ((rest.map (cv g)).map fun v => v.category).sum) + (13 * (names.length + 1) + 42) ≤ R.locals
      have : 480 ≤ 60 * (d + 8) := by omega
      omega) hlocks
  obtain ⟨f1, f2⟩ := vx_frame hsame
  rw [hhp] at f1 f2
  have f3 : ∀ q : Nat, q < H.size → U.heap[q]? = H[q]? := fun q hq => f2 q hq (fun z hz => nomatch hz)
  have hWs : s.WarmedH U.vm := State.WarmedH.trans hW0 hW
  have hcl : s.vm.findClass cls = some ce.cls := by
    rw [hcc, ← hvm]; exact hfX
  have hall : s.sameButNew ({ U with vm := s.vm } : State) locs mc ms := by
    subst hA
    obtain ⟨e1, e2⟩ := hsame
    rw [State.setFrames_setFrames] at e1
    have h2 : (T.setVm s.vm).sameButNew ({ U with vm := s.vm } : State) [] (0 + 1) (0 + 6) := ⟨e1, e2⟩
    have h3 := X.same.trans h2
    rw [List.append_nil] at h3
    exact h3.mono (by omega) (by omega)
  have hsz : sz ≤ U.heap.size - gB g := by have := hH.1; omega
  have hHU : Hr g h (U.heap.size - gB g) U.heap := ⟨by have := hH.1; omega, fun a x ha => by
    obtain ⟨q1, q2⟩ := hH.2 a x ha
    exact ⟨q1, q2.kept (f3 _ q2.lt)⟩⟩
  have hFU : va_F (Ag g) s U := ⟨Nat.le_trans hS.1 f1, fun q q1 q2 => (f3 q (Nat.lt_of_lt_of_le q1 hS.1)).trans (hS.2.1 q q1 q2)⟩
  refine ⟨U, ?_, .threw T.heap.size, hrun, hend, Or.inr ⟨T.heap.size, rfl, cls, ce, locs, ⟨⟨h, _, hq _ hsz, hHU⟩, hFU⟩, hce, hcv, hcl, hWs, hall, hS.2.2⟩⟩
  refine st1 _ ?_
  show Steps p.tables e below (T1.setTop { method := m, pc := pc + 3, locals := la, stack := .ref T.heap.size :: rest.map (cv g), locked := none }) _
  jvm_step X₁.here [X₁.here.top, hexec, d3', Value.category]
  exact X₁.ldcStringW hexec (own := M.1.cls) (text := text) (index := is) (a := gK g i) hown' hstr'.1 hstr'.2
    (g := { method := m, pc := pc + 4, locals := la, stack := .ref T.heap.size :: .ref T.heap.size :: rest.map (cv g), locked := none }) rfl d4' _ hsteps
end JTH
def isDC (w : Cond) : Bool := match w with
  | .declares _ => true
  | .castable _ _ => true
  | _ => false
theorem at_of {L D : List Cond} {is : List Nat} (hl : L.length = is.length) (h : (L.zip is).all (fun q => !(vx_no q.1) || isDC q.1 || (decide (lw_tbl[q.2]? = some q.1) && goodWord q.1)) = true) (hD : L.filter isDC = D) (hA : ∀ w ∈ D, AtW w) : ∀ w ∈ L.filter vx_no, AtW w := by
  intro w hw
  obtain ⟨h1, h2⟩ := List.mem_filter.mp hw
  by_cases q : isDC w = true
  · exact hA w (hD ▸ List.mem_filter.mpr ⟨h1, q⟩)
  obtain ⟨k, hk, rfl⟩ := List.mem_iff_getElem.mp h1
  have hz : (L[k], is[k]'(hl ▸ hk)) ∈ L.zip is := List.mem_iff_getElem.mpr ⟨k, by rw [List.length_zip, ← hl, Nat.min_self]; exact hk, by rw [List.getElem_zip]⟩
  have h3 := List.all_eq_true.mp h _ hz
  simp only [h2, Bool.not_true, Bool.false_or, Bool.or_eq_true, Bool.and_eq_true, decide_eq_true_eq] at h3
  rcases h3 with h3 | h3
  · exact absurd h3 q
  · exact Or.inl ⟨List.mem_of_getElem? h3.1, h3.2⟩
abbrev NS : String := "java/util/NoSuchElementException"
abbrev IA : String := "java/lang/IllegalArgumentException"
abbrev nmE : List String := ["java/lang/RuntimeException", "java/lang/Exception"]
set_option maxRecDepth 100000 in
theorem dc_RT : AtW (.declares (Bundle.initS "java/lang/RuntimeException")) := Or.inr (Or.inl ⟨_, Bundle.six, 2, none, rfl, ⟨List.mem_of_getElem? (i := 727) rfl, rfl⟩, ⟨List.mem_of_getElem? (i := 728) rfl, rfl⟩⟩)
set_option maxRecDepth 100000 in
theorem dc_EX : AtW (.declares (Bundle.initS "java/lang/Exception")) := Or.inr (Or.inl ⟨_, Bundle.six, 2, none, rfl, ⟨List.mem_of_getElem? (i := 730) rfl, rfl⟩, ⟨List.mem_of_getElem? (i := 731) rfl, rfl⟩⟩)
set_option maxRecDepth 100000 in
theorem dc_TH : AtW (.declares (Bundle.initS Bundle.tN)) := Or.inr (Or.inl ⟨_, _, 2, none, rfl, ⟨List.mem_of_getElem? (i := 733) rfl, rfl⟩, ⟨List.mem_of_getElem? (i := 734) rfl, rfl⟩⟩)
set_option maxRecDepth 100000 in
theorem ib_NS : InT (.instantiable NS 6) := ⟨List.mem_of_getElem? (i := 1106) rfl, rfl⟩
set_option maxRecDepth 100000 in
theorem ib_IA : InT (.instantiable IA 6) := ⟨List.mem_of_getElem? (i := 683) rfl, rfl⟩
theorem at_NS : ∀ w ∈ (Bundle.ownAtomsX RX10 361 NS 13 prog_30_method_4_code nmE).filter vx_no, AtW w := at_of (D := [.declares (Bundle.initS "java/lang/RuntimeException"), .declares (Bundle.initS "java/lang/Exception"), .declares (Bundle.initS Bundle.tN), .castable NS NS]) (is := [160, 704, 713, 716, 719, 721, 705, 706, 178, 179, 707, 712, 717, 737, 694, 738, 696, 739, 698, 708, 0, 710, 0, 700, 733, 734, 736, 700, 1116, 1117, 1118, 727, 686, 727, 728, 729, 730, 688, 730, 731, 732, 733, 690, 1115, 1106, 1107, 1108, 715, 1109, 1110, 1111, 1112, 0, 0, 703, 702, 1113]) (by decide +kernel) (by decide +kernel) rfl
  (List.forall_mem_cons.mpr ⟨dc_RT, List.forall_mem_cons.mpr ⟨dc_EX, List.forall_mem_cons.mpr ⟨dc_TH, List.forall_mem_cons.mpr ⟨Or.inr (Or.inr ⟨_, 6, rfl, ib_NS⟩), fun _ h => nomatch h⟩⟩⟩⟩)
theorem at_IA : ∀ w ∈ (Bundle.ownAtomsX RX10 368 IA 7 prog_19_method_2_code nmE).filter vx_no, AtW w := at_of (D := [.declares (Bundle.initS "java/lang/RuntimeException"), .declares (Bundle.initS "java/lang/Exception"), .declares (Bundle.initS Bundle.tN), .castable IA IA]) (is := [160, 704, 713, 716, 719, 721, 705, 706, 178, 179, 707, 712, 717, 737, 694, 738, 696, 739, 698, 708, 0, 710, 0, 700, 733, 734, 736, 700, 724, 725, 726, 727, 686, 727, 728, 729, 730, 688, 730, 731, 732, 733, 690, 723, 683, 684, 691, 692, 693, 695, 697, 699, 0, 0, 703, 702, 701]) (by decide +kernel) (by decide +kernel) rfl
  (List.forall_mem_cons.mpr ⟨dc_RT, List.forall_mem_cons.mpr ⟨dc_EX, List.forall_mem_cons.mpr ⟨dc_TH, List.forall_mem_cons.mpr ⟨Or.inr (Or.inr ⟨_, 6, rfl, ib_IA⟩), fun _ h => nomatch h⟩⟩⟩⟩)
set_option maxRecDepth 100000 in
theorem cl_NS : InT (.classLink RX10 357 NS) := ⟨List.mem_of_getElem? (i := 1105) rfl, rfl⟩
set_option maxRecDepth 100000 in
theorem in_NS : InT (.initialized NS) := ⟨List.mem_of_getElem? (i := 171) rfl, rfl⟩
set_option maxRecDepth 100000 in
theorem cl_IA : InT (.classLink RX10 364 IA) := ⟨List.mem_of_getElem? (i := 682) rfl, rfl⟩
set_option maxRecDepth 100000 in
theorem in_IA : InT (.initialized IA) := ⟨List.mem_of_getElem? (i := 163) rfl, rfl⟩
/-- a contract that throws E and leaves S' -/
def TH (g : Gp) (N : Mt) (d : Nat) (as : List Value) (S : Sx) (E : String) (S' : Sx) : Prop := ∀ sz, CT g N d 1 6 as (hs S) sz (fun o h sz' => o = .inr E ∧ h = hs S' ∧ sz ≤ sz')
section JTC
variable {g : Gp} {M N : Mt} {d d' n idx a pc : Nat} {ls : List (Option Value)} {st as rest : List Value} {S S' : Sx} {sz kc ks : Nat} {Q : Po} {E : String}
theorem TH_ofQ (hy : plainName N.1.cls = true ∧ isLaw N = false) (hn : (lsl as).length ≤ N.2.2.1) (k : ∀ sz Q, (∀ sz', sz ≤ sz' → Q (.inr E) (hs S') sz') → J g N d [] 0 (lsp N.2.2.1 (lsl as)) [] (hs S) sz 1 6 Q) : TH g N d as S E S' := fun sz => CT_of_J hy hn (J_forget (lsp_at _ _) (k sz _ (fun _ h => ⟨rfl, rfl, h⟩)))
theorem J_cvth (hM : isLaw M = false) (hd : decode M.2.1 pc = .ok (.invokevirtual idx, 3)) (hm : InT (.methodLink M.1.cls idx N.1)) (hc : CF N n) (hv : CFv N) (hT : TH g N d' (.ref a :: as) S E S') (hst : st = as.reverse ++ .ref a :: rest) (hn : as.length = n) (hcat : (rest.map fun v => v.category).sum ≤ 8) (hdd : d' + 1 ≤ d) (hk1 : 1 ≤ kc) (hk2 : 6 ≤ ks) (hrv : Rv (hs S) a N.1.cls) (hQ : ∀ sz', sz ≤ sz' → Q (.inr E) (hs S') sz') : J g M d [] pc ls st (hs S) sz kc ks Q := by
  refine J_cvT hM hd hm hc hv (hT sz) hst hn hcat hdd hk1 hk2 hrv (fun X h' sz' hq => ?_) (fun v h' sz' hq => ?_)
  · obtain ⟨e1, rfl, h3⟩ := hq
    cases e1
    exact hQ sz' h3
  · cases hq.1
end JTC
theorem th_NS {g : Gp} {S : Sx} (hl : (gl g).stackTraces = false) : TH g mX10_needElement 0 [.ref 0, .int 0] S NS (sF S 0 14 (sf S 0 14 + 1)) := by
  refine TH_ofQ ⟨rfl, rfl⟩ (Nat.le_of_ble_eq_true rfl) (fun sz Q hQ => ?_)
  refine J_iload_n (pc := 0) dX10_needElement_0 rfl ?_
  refine J_if_ne (pc := 1) (tgt := 25) dX10_needElement_1 (by decide) (fun c1 => absurd rfl c1) (fun c1 => ?_)
  refine J_aload_n (pc := 4) dX10_needElement_4 rfl ?_
  refine J_dup (pc := 5) dX10_needElement_5 rfl ?_
  refine J_geti (pc := 6) dX10_needElement_6 kc10 fl_X10_351 rfl ?_
  refine J_iconst (pc := 9) (v := 1) dX10_needElement_9 (by decide) ?_
  refine J_iadd (pc := 10) dX10_needElement_10 ?_
  refine J_puti (pc := 11) dX10_needElement_11 kc10 fl_X10_351 rfl ⟨rfl, rfl⟩ ?_
  exact J_thr (pc := 14) (names := nmE) (i := 6) hl rfl (by decide +kernel) (by decide +kernel) (by decide) cl_NS in_NS rfl at_NS (by decide +kernel) (by decide +kernel) (by decide +kernel) (by decide +kernel) dX10_needElement_14 dX10_needElement_17 dX10_needElement_18 dX10_needElement_21 dX10_needElement_24 (by decide) (by decide) (by decide) hQ
theorem th_IA {g : Gp} {S : Sx} (hl : (gl g).stackTraces = false) : TH g mX10_needArgument 0 [.ref 0, .int 0] S IA (sF S 0 15 (sf S 0 15 + 1)) := by
  refine TH_ofQ ⟨rfl, rfl⟩ (Nat.le_of_ble_eq_true rfl) (fun sz Q hQ => ?_)
  refine J_iload_n (pc := 0) dX10_needArgument_0 rfl ?_
  refine J_if_ne (pc := 1) (tgt := 25) dX10_needArgument_1 (by decide) (fun c1 => absurd rfl c1) (fun c1 => ?_)
  refine J_aload_n (pc := 4) dX10_needArgument_4 rfl ?_
  refine J_dup (pc := 5) dX10_needArgument_5 rfl ?_
  refine J_geti (pc := 6) dX10_needArgument_6 kc10 fl_X10_354 rfl ?_
  refine J_iconst (pc := 9) (v := 1) dX10_needArgument_9 (by decide) ?_
  refine J_iadd (pc := 10) dX10_needArgument_10 ?_
  refine J_puti (pc := 11) dX10_needArgument_11 kc10 fl_X10_354 rfl ⟨rfl, rfl⟩ ?_
  exact J_thr (pc := 14) (names := nmE) (i := 7) hl rfl (by decide +kernel) (by decide +kernel) (by decide) cl_IA in_IA rfl at_IA (by decide +kernel) (by decide +kernel) (by decide +kernel) (by decide +kernel) dX10_needArgument_14 dX10_needArgument_17 dX10_needArgument_18 dX10_needArgument_21 dX10_needArgument_24 (by decide) (by decide) (by decide) hQ
