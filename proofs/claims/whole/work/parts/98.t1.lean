/-! ===== throws: an exception whose constructor hands its text on to its parent's by any pool entry ===== -/
/-- of the library's words of a throw those on the thrown class itself -/
def oT (own : String) (ic : Nat) (X : String) : List Cond := (Bundle.ownAtoms own ic X []).drop (Bundle.throwableAtoms ++ Bundle.throwableSAtoms ++ Bundle.chainSAtoms X []).length
/-- all words of a throw: the class's constructor is rx, which calls that of Y by entry ix; Y's and those of r above it are the usual ones -/
def oW (own : String) (ic : Nat) (X : String) (ix : Nat) (rx : ByteArray) (Y : String) (r : List String) : List Cond :=
  Bundle.throwableAtoms ++ (Bundle.throwableSAtoms ++ ((Bundle.passSAtoms X Y ix rx ++ Bundle.chainSAtoms Y r) ++ oT own ic X))
theorem oT_sub {own X Y : String} {ic ix : Nat} {rx : ByteArray} {r : List String} {w : Cond} (h : w ∈ oT own ic X) : w ∈ oW own ic X ix rx Y r :=
  List.mem_append_right _ (List.mem_append_right _ (List.mem_append_right _ h))
theorem oP_sub {own X Y : String} {ic ix : Nat} {rx : ByteArray} {r : List String} {w : Cond} (h : w ∈ Bundle.passSAtoms X Y ix rx) : w ∈ oW own ic X ix rx Y r :=
  List.mem_append_right _ (List.mem_append_right _ (List.mem_append_left _ (List.mem_append_left _ h)))
section VY
variable {args : Array Value} {s : State} {own X Y : String} {ic ix : Nat} {rx : ByteArray} {r : List String} {cX : ClassId} {kX : Class} {B : ThrowableC} {Z : Init0T} {pl : Platform}
/-- the constructors, from the thrown class up to Throwable -/
theorem vy_up (hpl : pl.magicAccessors = ({} : Platform).magicAccessors) {top : MethodId} (ht : s.methodNamed? (Bundle.initS Bundle.tN) = some top) (hX : Bundle.fit X = true) (hY : Bundle.fit Y = true) (hr : ∀ n ∈ r, Bundle.fit n = true)
    (x : decode rx 0 = .ok (.aload_n 0, 1) ∧ decode rx 1 = .ok (.aload_n 1, 1) ∧ decode rx 2 = .ok (.invokespecial ix, 3) ∧ decode rx 5 = .ok (.return_, 1)) (h : ∀ w ∈ oW own ic X ix rx Y r, w.before args s = true) :
    ∃ (P : PassC) (Ps : List PassC), s.methodNamed? (Bundle.initS X) = some P.m ∧ Ps.length = r.length + 1 ∧ (∀ q ∈ P :: Ps, q.LinksS pl s) ∧ PassesOn top ((P :: Ps).map (·.toPassT)) := by
  obtain ⟨P, p1, p2, p3⟩ := PassC.ofS_atoms (args := args) hpl (Bundle.fit_spec hX).1 (Bundle.fit_spec hY).2 x.1 x.2.1 x.2.2.1 x.2.2.2 (fun w hw => h w (oP_sub hw))
  obtain ⟨P', Ps, q1, q2, q3, q4, q5, q6⟩ := Bundle.chainS (args := args) hpl ht r Y hY hr (fun w hw => h w (List.mem_append_right _ (List.mem_append_right _ (List.mem_append_left _ (List.mem_append_right _ hw)))))
  refine ⟨P, P' :: Ps, p2, congrArg (· + 1) q1, List.forall_mem_cons.mpr ⟨p1, List.forall_mem_cons.mpr ⟨q2, q3⟩⟩, ?_, q5, q6⟩
  rw [p3] at q4
  exact Option.some.inj q4
/-- a virtual call on a thrown object lands in Throwable -/
theorem vy_pick {t : MethodName} {m : MethodId} (hc : s.vm.findClass X = some cX) (hm : s.methodNamed? t = some m) (hn : t.cls ≠ "java/lang/invoke/MethodHandle" ∧ t.cls ≠ "java/lang/invoke/VarHandle") (h : (Cond.selects X t t).before args s = true) : selectMethod {} s.vm cX m = .method m := by
  obtain ⟨_, _, _, h1, h2, h3, h4, -⟩ := Cond.selects_spec h
  rw [hc] at h1
  rw [State.methodFound?_of_named hm hn] at h2
  rw [hm] at h3
  cases h1
  cases h2
  cases h3
  exact h4
/-- what a fresh object of the class is to Throwable's own constructor -/
def vy_F (s : State) (cX : ClassId) (kX : Class) (B : ThrowableC) : Prop :=
  (∀ v, fits B.fCause.type v = true → Takes s (freshCell cX kX) B.fCause v) ∧ (∀ v, fits B.fStack.type v = true → Takes s (freshCell cX kX) B.fStack v) ∧
  (∀ v, fits B.fSupp.type v = true → Takes s (freshCell cX kX) B.fSupp v) ∧ (∀ v, fits B.fMsg.type v = true → Takes s (freshCell cX kX) B.fMsg v)
theorem vy_fields (hc : s.vm.findClass X = some cX) (hk : s.vm.classes[cX]? = some kX) (ho : kX.kind = .ordinary) (t : Bundle.Ties B Z s) (h : ∀ w ∈ oW own ic X ix rx Y r, w.before args s = true) : vy_F s cX kX B := by
  have one : ∀ {n d : String} {i : Nat} {f : Field}, s.fieldFound? Bundle.tN n d = some (B.cT, B.kT, i, f) → Cond.lays X Bundle.tN n d ∈ oT own ic X → ∀ v, fits f.type v = true → Takes s (freshCell cX kX) f v :=
    fun hf hw v hv => Takes.of_laid hk ho (Cond.laysAt hc hk hf (h _ (oT_sub hw))).1 hv
  obtain ⟨iM, hM⟩ := t.msg
  exact ⟨one t.cause (by simp [oT, Bundle.ownAtoms, List.drop_left]), one t.stack (by simp [oT, Bundle.ownAtoms, List.drop_left]), one t.supp (by simp [oT, Bundle.ownAtoms, List.drop_left]), one hM (by simp [oT, Bundle.ownAtoms, List.drop_left])⟩
/-- its backtrace is null, and stays so while the other three are set -/
theorem vy_back (hpl : pl.magicAccessors = ({} : Platform).magicAccessors) (hc : s.vm.findClass X = some cX) (hk : s.vm.classes[cX]? = some kX) (L : B.Links pl s) (t : Bundle.Ties B Z s) (h : ∀ w ∈ oW own ic X ix rx Y r, w.before args s = true) (a : Addr) (u v : RefV) (n : Nat) :
    SkipFacts B pl s (fun z => z) u ((preparedCellV B.toThrowableT (freshCell cX kX) a u v).withEntry n) := by
  have hw : ∀ w ∈ oT own ic X, w.before args s = true := fun w hw => h w (oT_sub hw)
  obtain ⟨ci, i, f, f1, f2, f3, f4, -, f5, f6, f7⟩ := Cond.ownField (t := .object "java/lang/Object") t.found L.cls (by decide +kernel) (hw (.fieldLink Bundle.tN 198 Bundle.tN "backtrace" "Ljava/lang/Object;") (by simp [oT, Bundle.ownAtoms, List.drop_left]))
    (hw (.lays Bundle.tN Bundle.tN "backtrace" "Ljava/lang/Object;") (by simp [oT, Bundle.ownAtoms, List.drop_left])) pl hpl
  obtain ⟨ty, d, d1, d2⟩ := Cond.laysAt hc hk f7 (hw (.lays X Bundle.tN "backtrace" "Ljava/lang/Object;") (by simp [oT, Bundle.ownAtoms, List.drop_left]))
  have far : ∀ {n d : String} {i : Nat} {q : Field}, s.fieldFound? Bundle.tN n d = some (B.cT, B.kT, i, q) → Cond.lays X Bundle.tN n d ∈ oT own ic X → "backtrace" ≠ q.name → f.slot ≠ q.slot := fun hf hm hq => by
    obtain ⟨-, d', e1, e2⟩ := Cond.laysAt hc hk hf (hw _ hm)
    exact Cond.laysApart d1 e1 d2 e2 (by rw [f5]; exact hq)
  have g1 := far t.cause (by simp [oT, Bundle.ownAtoms, List.drop_left]) (by rw [t.causeName]; decide)
  have g2 := far t.stack (by simp [oT, Bundle.ownAtoms, List.drop_left]) (by rw [t.stackName]; decide)
  have g3 := far t.supp (by simp [oT, Bundle.ownAtoms, List.drop_left]) (by rw [t.suppName]; decide)
  refine ⟨⟨ci, i, f⟩, ⟨f1, f2, f3, f4⟩, ?_, fun _ _ => rfl⟩
  have h0 := fresh_default (c := cX) ty
  rw [f6] at h0
  show (((((freshCell cX kX).slots.setIfInBounds B.fCause.slot (.ref a)).setIfInBounds B.fStack.slot u.v).setIfInBounds B.fSupp.slot v.v))[f.slot]? = some .null
  rw [Array.getElem?_setIfInBounds_ne g3.symm, Array.getElem?_setIfInBounds_ne g2.symm, Array.getElem?_setIfInBounds_ne g1.symm]
  exact h0
end VY
section VZ
variable {p : Program} {l : Launch} {e : Env} {R : Room} {s : State} {m : MethodId} {args : Array Value} {below : List Frame} {meth : Method} {c : Code} {T : State} {locs : List Loc} {cells slots : Nat}
variable {own X Y : String} {ic ix : Nat} {rx : ByteArray} {r : List String} {B : ThrowableC} {Z : Init0T}
/-- Throwable's statics lie as at the start: both are references -/
theorem vy_stat (S : Stand p l e R s m args below meth c T locs cells slots) (L : B.Links e.platform s) (t : Bundle.Ties B Z s) (hl : ∀ x ∈ locs, ∀ z, s.heap[x.base]? = some z → z.vm.isStatics = false) (h : ∀ w ∈ oW own ic X ix rx Y r, w.before args s = true) :
    ∃ (u v : RefV) (z : Cell), T.heap[B.aS]? = some z ∧ z.vm ≠ .unknown ∧ B.aS < s.heap.size ∧ z.slots[B.fUnassigned.slot]? = some u.v ∧ z.slots[B.fSentinel.slot]? = some v.v := by
  obtain ⟨y, y1, y2⟩ := t.statics
  obtain ⟨u, hu⟩ := Cond.staticRefV t.unassigned L.unassignedStatic L.statics y1 y2 (h (.isRef (.static Bundle.tN "UNASSIGNED_STACK" Bundle.steD)) (oT_sub (by simp [oT, Bundle.ownAtoms, List.drop_left])))
  obtain ⟨v, hv⟩ := Cond.staticRefV t.sentinel L.sentinelStatic L.statics y1 y2 (h (.isRef (.static Bundle.tN "SUPPRESSED_SENTINEL" Bundle.listD)) (oT_sub (by simp [oT, Bundle.ownAtoms, List.drop_left])))
  obtain ⟨z, z1, z2, -, z3⟩ := S.same.2.2.2.2.2 B.aS y y1
  have far : ∀ i, (⟨B.aS, i⟩ : Loc) ∉ locs := fun i hi => Bool.noConfusion (y2.symm.trans (hl _ hi y y1))
  refine ⟨u, v, z, z1, fun q => ?_, (Array.getElem?_eq_some_iff.mp y1).1, (z3 _ (far _)).trans hu, (z3 _ (far _)).trans hv⟩
  rw [show y.vm = .unknown from (congrArg Cell.vm z2).symm.trans q] at y2
  cases y2
set_option maxHeartbeats 1000000 in
theorem vy_ctor (S : Stand p l e R s m args below meth c T locs cells slots) (hx : p.tables.exec = Jvm.exec) (htr : e.platform.stackTraces = false)
    (x : decode rx 0 = .ok (.aload_n 0, 1) ∧ decode rx 1 = .ok (.aload_n 1, 1) ∧ decode rx 2 = .ok (.invokespecial ix, 3) ∧ decode rx 5 = .ok (.return_, 1)) (hown : s.vm.findClass own = some m.cls) (hX : Bundle.fit X = true) (hY : Bundle.fit Y = true) (hr : ∀ n ∈ r, Bundle.fit n = true)
    (h : ∀ w ∈ oW own ic X ix rx Y r, w.before args s = true) (hl : ∀ x ∈ locs, ∀ z, s.heap[x.base]? = some z → z.vm.isStatics = false)
    {a : Addr} {cX : ClassId} {kX : Class} (hc : s.vm.findClass X = some cX) (hk : s.vm.classes[cX]? = some kX) (ha : T.heap[a]? = some (freshCell cX kX)) (hnew : s.heap.size ≤ a) {msg : Value} (hmsg : msg.isRef = true)
    {g : JFrame} (hg : g.method = m) (hsz : g.locals.size = c.maxLocals) (hg1 : g.locked = none) (hg2 : g.entered = []) {st : List Value} (hst : g.stack = msg :: .ref a :: .ref a :: st)
    (d1 : decode c.code g.pc = .ok (.invokespecial ic, 3)) (d2 : decode c.code (g.pc + 3) = .ok (.athrow, 1)) (hout : ∀ x ∈ c.exceptionTable.toList, covers x (g.pc + 3) = false)
    (hRf : r.length + 4 < R.frames) (hRl : 2 * g.monitorRoom + ((Value.ref a :: st).map fun v => v.category).sum + (13 * (r.length + 2) + 42) ≤ R.locals) (hlocks : meth.locks = false) :
    ∃ U : State, Steps p.tables e below (T.setTop g) U ∧ U.status = .running ∧ Ended U below (.threw a) ∧ s.WarmedH U.vm ∧ s.sameButNew ({ U with vm := s.vm } : State) locs cells slots ∧ ∃ ce, U.heap[a]? = some ce ∧ ce.cls = cX ∧ ce.vm = .none := by
  have hpl : e.platform.magicAccessors = ({} : Platform).magicAccessors := by rw [S.admits.platform]
  obtain ⟨B, Z0, L, -, t⟩ := ThrowableC.of_atoms (args := args) (by rw [S.admits.platform]) (by rw [S.admits.platform]) hpl (fun w hw => h w (List.mem_append_left _ hw))
  obtain ⟨Z, N, LZ, LN, top⟩ := Init0T.ofS_atoms (args := args) hpl L t (fun w hw => h w (List.mem_append_right _ (List.mem_append_left _ hw)))
  obtain ⟨P, Ps, hP, hlen, hLs, hon⟩ := vy_up hpl top hX hY hr x h
  obtain ⟨_, _, i1, i2, ho, -⟩ := Cond.instantiable_spec (h (.instantiable X 6) (oT_sub (by simp [oT, Bundle.ownAtoms, List.drop_left])))
  rw [hc] at i1
  cases i1
  rw [hk] at i2
  cases i2
  obtain ⟨t1, t2, t3, t4⟩ := vy_fields hc hk ho t h
  obtain ⟨u, v, z, z1, z2, z3, z4, z5⟩ := vy_stat S L t hl h
  have pick : ∀ {q : MethodName} {k : MethodId}, s.methodNamed? q = some k → (q.cls ≠ "java/lang/invoke/MethodHandle" ∧ q.cls ≠ "java/lang/invoke/VarHandle") → Cond.selects X q q ∈ oT own ic X → selectMethod e.platform s.vm cX k = .method k :=
    fun h1 h2 h3 => (Launch.admits_selectMethod S.admits _ _ _).trans (vy_pick hc h1 h2 (h _ (oT_sub h3)))
  obtain ⟨_, _, _, _, v1, n1, -, -, -, -, -, -, -, w1, st1⟩ := Steps.initColdS (U := T) S.here hx S.warmed hpl hown (t := Bundle.initS X) rfl rfl (Bundle.fit_spec hX).2 (h (.methodLink own ic (Bundle.initS X)) (oT_sub (by simp [oT, Bundle.ownAtoms, List.drop_left])))
    (h _ (oP_sub (by simp [Bundle.passSAtoms]))) (h (.code (Bundle.initS X) rx 2 none) (oP_sub (by simp [Bundle.passSAtoms]))) hg hst d1
  rw [hP] at n1
  cases n1
  obtain ⟨v2, S2, st2⟩ := (S.noted w1).ctorMessageOffV hx (g := { g with stack := .ref a :: st }) hg hsz B L Z LZ N LN (P :: Ps) hLs hon (u0 := u) (sen := v) hmsg ha (fun _ q => nomatch q) (fun q => nomatch q) rfl rfl
    (pick t.fill0 (by decide) (by simp [oT, Bundle.ownAtoms, List.drop_left])) (pick t.fill (by decide) (by simp [oT, Bundle.ownAtoms, List.drop_left])) z1 (Nat.ne_of_lt (Nat.lt_of_lt_of_le z3 hnew)) z2 z4 z5
    (t1 _ (by rw [t.causeType]; rfl)) (t2 _ (by rw [t.stackType]; exact fits_refV_array _ u)) (t3 _ (by rw [t.suppType]; exact fits_refV_object _ v)) (t4 _ (by rw [t.msgType]; exact fits_refV_object _ ⟨msg, hmsg⟩)) t.objLocals
    (vy_back hpl hc hk L t h a u v _) htr [] d1 (by simp only [List.length_cons]; omega) (by simp only [List.length_cons]; rw [hlen]; exact hRl)
  obtain ⟨e1, e2, e3, e4, e5⟩ := S2.athrowLeaves hx (g := { g with stack := .ref a :: st, pc := g.pc + 3 }) hg hg1 hg2 hout rfl d2
  refine ⟨_, st1 _ (fun acts => (doInvoke_state ..).symm ▸ st2 _ e1), e2, e3, e4, e5.weaken (fun y hy hy' => ?_) (Nat.le_refl _) (Nat.le_refl _), _, heapAt_setCell_self _ (Array.getElem?_eq_some_iff.mp ha).1, rfl, rfl⟩
  rcases List.mem_append.mp hy with q | q
  · exact q
  · have hb : y.base = a := by
      simp only [List.mem_cons, List.not_mem_nil, or_false] at q
      rcases q with rfl | rfl | rfl | rfl | rfl <;> rfl
    exact absurd (hb ▸ hy') (Nat.not_lt.mpr hnew)
end VZ
/-- a word of the tables, or one that follows -/
def AtW (w : Cond) : Prop := InT w ∨ (∃ x b n r, w = .declares x ∧ InT (.instanceMethod x) ∧ InT (.code x b n r)) ∨ (∃ X n, w = .castable X X ∧ InT (.instantiable X n))
theorem dc_of {x : MethodName} {b : ByteArray} {n : Nat} {r : Option FieldType} {args : Array Value} {s : State} (h1 : (Cond.instanceMethod x).before args s = true) (h2 : (Cond.code x b n r).before args s = true) : (Cond.declares x).before args s = true := by
  obtain ⟨_, _, q1, q2, q3, q4⟩ := va_Decl.of h1 h2
  simp [Cond.before, Cond.holds, Cond.value, q1, q2, q3, q4]
theorem cb_self {X : String} {n : Nat} {args : Array Value} {s : State} (h : (Cond.instantiable X n).before args s = true) : (Cond.castable X X).before args s = true := by
  obtain ⟨c1, k, hc1, hk, -⟩ := Cond.instantiable_spec h
  have ha : s.vm.assignable c1 c1 = true := by
    show s.vm.assignableAux _ c1 c1 = true
    unfold Vm.assignableAux
    simp
  simp [Cond.before, Cond.holds, Cond.value, hc1, ha]
theorem AtW.use {w : Cond} {args : Array Value} {s : State} (h : AtW w) (hW : Wd s) : w.before args s = true := by
  rcases h with h | ⟨x, b, n, r, rfl, h1, h2⟩ | ⟨X, n, rfl, h1⟩
  · exact hW.good h.1 h.2
  · exact dc_of (hW.good h1.1 h1.2) (hW.good h2.1 h2.2)
  · exact cb_self (hW.good h1.1 h1.2)
section JTH
variable {g : Gp} {M : Mt} {d pc i ik is ic ix : Nat} {ls : List (Option Value)} {rest : List Value} {h : AH} {sz kc ks : Nat} {Q : Po} {cls text yn : String} {r : List String} {rx : ByteArray}
/-- new, dup, ldc_w, invokespecial, athrow -/
theorem J_thr (hl : (gl g).stackTraces = false) (hM : isLaw M = false) (hcls : Bundle.fit cls = true) (hY : Bundle.fit yn = true) (hr : ∀ n ∈ r, Bundle.fit n = true) (hnl : r.length ≤ 2)
    (hk : InT (.classLink M.1.cls ik cls)) (hini : InT (.initialized cls)) (hi : strN[i]? = some (M.1.cls, is, text)) (hat : ∀ w ∈ (oW M.1.cls ic cls ix rx yn r).filter vx_no, AtW w)
    (x : decode rx 0 = .ok (.aload_n 0, 1) ∧ decode rx 1 = .ok (.aload_n 1, 1) ∧ decode rx 2 = .ok (.invokespecial ix, 3) ∧ decode rx 5 = .ok (.return_, 1))
    (d0 : decode M.2.1 pc = .ok (.new ik, 3)) (d3 : decode M.2.1 (pc + 3) = .ok (.dup, 1)) (d4 : decode M.2.1 (pc + 4) = .ok (.ldc_w is, 3)) (d7 : decode M.2.1 (pc + 7) = .ok (.invokespecial ic, 3)) (d10 : decode M.2.1 (pc + 10) = .ok (.athrow, 1))
    (hcat : (rest.map fun v => v.category).sum ≤ 8) (hkc : 1 ≤ kc) (hks : 6 ≤ ks) (hq : ∀ sz', sz ≤ sz' → Q (.inr cls) h sz') : J g M d [] pc ls rest h sz kc ks Q := by
  intro p e s m args below meth c R mc ms QF C E H locs cells slots la hH hS hlr h1 h2
  obtain ⟨hexec, hb, hml, -, hown, hlocks, hSr, hR1, hR2, hR3, hR4, htb, -⟩ := C
  rcases E with ⟨-, rfl⟩ | ⟨E, -⟩
  rotate_left
  · rw [hM] at E; cases E
  obtain ⟨-, hWd, -, hstr0, hU, hN, -⟩ := hSr
  have hstr := hstr0 i _ hi
  have hout : ∀ x ∈ c.exceptionTable.toList, covers x (pc + 10) = false := fun x hx => by rw [htb] at hx; cases hx
  intro T hT X
  have htr : e.platform.stackTraces = false := (show e.platform.stackTraces = (gl g).stackTraces by rw [X.admits.platform]).trans hl
  have Y := vx_rebase X (R' := { frames := R.frames, locals := R.locals, cells := 1, slots := 6 }) (Nat.le_refl _) (Nat.le_refl _) (by show cells + 1 ≤ R.cells; omega) (by show slots + 6 ≤ R.slots; omega)
  obtain ⟨s', hA⟩ : ∃ z, z = (T.setVm s.vm).setFrames (.invoking m args :: below) := ⟨_, rfl⟩
  rw [← hA] at Y
  have hvm : s'.vm = s.vm := by rw [hA]; rfl
  have hhp : s'.heap = H := by rw [hA]; exact hT
  have hW0 : s.WarmedH s'.vm := by rw [hvm]; exact State.WarmedH.refl s
  have hWd' : Wd s' := Wd.warm hW0 hWd
  have hU' : vx_Zq Bundle.tN "UNASSIGNED_STACK" Bundle.steD (Ag g) s' s'.heap := by rw [hhp]; exact vx_Zq.moved hW0.alike (hU.kept hS.2.1)
  have hN' : vx_Zq Bundle.tN "SUPPRESSED_SENTINEL" Bundle.listD (Ag g) s' s'.heap := by rw [hhp]; exact vx_Zq.moved hW0.alike (hN.kept hS.2.1)
  have hw : ∀ w ∈ oW M.1.cls ic cls ix rx yn r, w.before args s' = true := vx_own (fun w hw => (hat w hw).use hWd') (vx_isRefq hU'.1) (vx_isRefq hN'.1) hU'.2.word hN'.2.word
  have hown' : s'.vm.findClass M.1.cls = some m.cls := by rw [hvm]; exact hown
  have hins : (Cond.instantiable cls 6).before args s' = true := hw _ (oT_sub (by simp [oT, Bundle.ownAtoms, List.drop_left]))
  obtain ⟨vm₁, cX, kX, hfX, hkX, -, -, X₁, st1⟩ := Y.newCold hexec (own := M.1.cls) (C := cls) (index := ik) (n := 6) hown' (hWd'.good hk.1 hk.2) hins (hWd'.good hini.1 hini.2)
    (g := F0 m pc la (rest.map (cv g))) rfl (by rw [hb]; exact d0) (Nat.le_refl _) (Nat.le_refl _)
  generalize hT1 : (T.setVm vm₁).pushCell { cls := cX, slots := kX.instanceTypes.map defaultValue, vm := .none } = T1 at X₁ st1
  have hcellA : T1.heap[T.heap.size]? = some (freshCell cX kX) := by rw [← hT1]; exact State.heap_pushCell_size _ _
  have d3' : decode c.code (pc + 3) = .ok (.dup, 1) := by rw [hb]; exact d3
  have d4' : decode c.code (pc + 4) = .ok (.ldc_w is, 3) := by rw [hb]; exact d4
  have hstr' : vk_R M.1.cls is text (gK g i) s' := vk_R.warm hW0 hstr
  have hc2 : ((rest.map (cv g)).map fun v => v.category).sum ≤ 8 := by rw [cat_map]; exact hcat
  obtain ⟨U, hsteps, hrun, hend, hW, hsame, ce, hce, hcc, hcv⟩ := vy_ctor X₁ hexec htr (own := M.1.cls) (X := cls) (r := r) (ic := ic) x hown' hcls hY hr hw (fun x hx => nomatch hx) hfX hkX hcellA (by rw [hhp, hT]; exact Nat.le_refl _) (msg := .ref (gK g i)) rfl
    (g := { method := m, pc := pc + 7, locals := la, stack := .ref (gK g i) :: .ref T.heap.size :: .ref T.heap.size :: rest.map (cv g), locked := none }) rfl (hlr.1.trans hml.symm) rfl rfl (st := rest.map (cv g)) rfl
    (by rw [hb]; exact d7) (by rw [hb]; exact d10) hout (by show r.length + 4 < R.frames; omega)
    (by
      show 2 * 0 + (1 + ((rest.map (cv g)).map fun v => v.category).sum) + (13 * (r.length + 2) + 42) ≤ R.locals
      have : 480 ≤ 60 * (d + 8) := by omega
      omega) hlocks
  obtain ⟨f1, f2⟩ := vx_frame hsame
  rw [hhp] at f1 f2
  have f3 : ∀ q : Nat, q < H.size → U.heap[q]? = H[q]? := fun q hq => f2 q hq (fun z hz => nomatch hz)
  have hWs : s.WarmedH U.vm := State.WarmedH.trans hW0 hW
  have hcl : s.vm.findClass cls = some ce.cls := by
    rw [hcc, ← hvm]; exact hfX
  have hall : s.sameButNew ({ U with vm := s.vm } : State) locs mc ms := by
    subst hA
    obtain ⟨e1, e2⟩ := hsame
    rw [State.setFrames_setFrames] at e1
    have h2 : (T.setVm s.vm).sameButNew ({ U with vm := s.vm } : State) [] (0 + 1) (0 + 6) := ⟨e1, e2⟩
    have h3 := X.same.trans h2
    rw [List.append_nil] at h3
    exact h3.mono (by omega) (by omega)
  have hsz : sz ≤ U.heap.size - gB g := by have := hH.1; omega
  have hHU : Hr g h (U.heap.size - gB g) U.heap := ⟨by have := hH.1; omega, fun a x ha => by
    obtain ⟨q1, q2⟩ := hH.2 a x ha
    exact ⟨q1, q2.kept (f3 _ q2.lt)⟩⟩
  have hFU : va_F (Ag g) s U := ⟨Nat.le_trans hS.1 f1, fun q q1 q2 => (f3 q (Nat.lt_of_lt_of_le q1 hS.1)).trans (hS.2.1 q q1 q2)⟩
  refine ⟨U, ?_, .threw T.heap.size, hrun, hend, Or.inr ⟨T.heap.size, rfl, cls, ce, locs, ⟨⟨h, _, hq _ hsz, hHU⟩, hFU⟩, hce, hcv, hcl, hWs, hall, hS.2.2⟩⟩
  refine st1 _ ?_
  show Steps p.tables e below (T1.setTop { method := m, pc := pc + 3, locals := la, stack := .ref T.heap.size :: rest.map (cv g), locked := none }) _
  jvm_step X₁.here [X₁.here.top, hexec, d3', Value.category]
  exact X₁.ldcStringW hexec (own := M.1.cls) (text := text) (index := is) (a := gK g i) hown' hstr'.1 hstr'.2
    (g := { method := m, pc := pc + 4, locals := la, stack := .ref T.heap.size :: .ref T.heap.size :: rest.map (cv g), locked := none }) rfl d4' _ hsteps
end JTH
def isDC (w : Cond) : Bool := match w with
  | .declares _ => true
  | .castable _ _ => true
  | _ => false
theorem at_of {L D : List Cond} {is : List Nat} (hl : L.length = is.length) (h : (L.zip is).all (fun q => !(vx_no q.1) || isDC q.1 || (decide (lw_tbl[q.2]? = some q.1) && goodWord q.1)) = true) (hD : L.filter isDC = D) (hA : ∀ w ∈ D, AtW w) : ∀ w ∈ L.filter vx_no, AtW w := by
  intro w hw
  obtain ⟨h1, h2⟩ := List.mem_filter.mp hw
  by_cases q : isDC w = true
  · exact hA w (hD ▸ List.mem_filter.mpr ⟨h1, q⟩)
  obtain ⟨k, hk, rfl⟩ := List.mem_iff_getElem.mp h1
  have hz : (L[k], is[k]'(hl ▸ hk)) ∈ L.zip is := List.mem_iff_getElem.mpr ⟨k, by rw [List.length_zip, ← hl, Nat.min_self]; exact hk, by rw [List.getElem_zip]⟩
  have h3 := List.all_eq_true.mp h _ hz
  simp only [h2, Bool.not_true, Bool.false_or, Bool.or_eq_true, Bool.and_eq_true, decide_eq_true_eq] at h3
  rcases h3 with h3 | h3
  · exact absurd h3 q
  · exact Or.inl ⟨List.mem_of_getElem? h3.1, h3.2⟩
abbrev NS : String := "java/util/NoSuchElementException"
abbrev IA : String := "java/lang/IllegalArgumentException"
abbrev nRE : String := "java/lang/RuntimeException"
abbrev nEE : List String := ["java/lang/Exception"]
set_option maxRecDepth 100000 in
theorem dc_RT : AtW (.declares (Bundle.initS "java/lang/RuntimeException")) := Or.inr (Or.inl ⟨_, Bundle.six, 2, none, rfl, ⟨List.mem_of_getElem? (i := 727) rfl, rfl⟩, ⟨List.mem_of_getElem? (i := 728) rfl, rfl⟩⟩)
set_option maxRecDepth 100000 in
theorem dc_EX : AtW (.declares (Bundle.initS "java/lang/Exception")) := Or.inr (Or.inl ⟨_, Bundle.six, 2, none, rfl, ⟨List.mem_of_getElem? (i := 730) rfl, rfl⟩, ⟨List.mem_of_getElem? (i := 731) rfl, rfl⟩⟩)
set_option maxRecDepth 100000 in
theorem dc_TH : AtW (.declares (Bundle.initS Bundle.tN)) := Or.inr (Or.inl ⟨_, _, 2, none, rfl, ⟨List.mem_of_getElem? (i := 733) rfl, rfl⟩, ⟨List.mem_of_getElem? (i := 734) rfl, rfl⟩⟩)
set_option maxRecDepth 100000 in
theorem ib_NS : InT (.instantiable NS 6) := ⟨List.mem_of_getElem? (i := 1106) rfl, rfl⟩
set_option maxRecDepth 100000 in
theorem ib_IA : InT (.instantiable IA 6) := ⟨List.mem_of_getElem? (i := 683) rfl, rfl⟩
theorem at_NS : ∀ w ∈ (oW RX10 361 NS 13 prog_30_method_4_code nRE nEE).filter vx_no, AtW w := at_of (D := [.declares (Bundle.initS "java/lang/RuntimeException"), .declares (Bundle.initS "java/lang/Exception"), .declares (Bundle.initS Bundle.tN), .castable NS NS]) (is := [160, 704, 713, 716, 719, 721, 705, 706, 178, 179, 707, 712, 717, 737, 694, 738, 696, 739, 698, 708, 0, 710, 0, 700, 733, 734, 736, 700, 1116, 1117, 1118, 727, 686, 727, 728, 729, 730, 688, 730, 731, 732, 733, 690, 1115, 1106, 1107, 1108, 715, 1109, 1110, 1111, 1112, 0, 0, 703, 702, 1113]) (by decide +kernel) (by decide +kernel) rfl
  (List.forall_mem_cons.mpr ⟨dc_RT, List.forall_mem_cons.mpr ⟨dc_EX, List.forall_mem_cons.mpr ⟨dc_TH, List.forall_mem_cons.mpr ⟨Or.inr (Or.inr ⟨_, 6, rfl, ib_NS⟩), fun _ h => nomatch h⟩⟩⟩⟩)
theorem at_IA : ∀ w ∈ (oW RX10 368 IA 7 prog_19_method_2_code nRE nEE).filter vx_no, AtW w := at_of (D := [.declares (Bundle.initS "java/lang/RuntimeException"), .declares (Bundle.initS "java/lang/Exception"), .declares (Bundle.initS Bundle.tN), .castable IA IA]) (is := [160, 704, 713, 716, 719, 721, 705, 706, 178, 179, 707, 712, 717, 737, 694, 738, 696, 739, 698, 708, 0, 710, 0, 700, 733, 734, 736, 700, 724, 725, 726, 727, 686, 727, 728, 729, 730, 688, 730, 731, 732, 733, 690, 723, 683, 684, 691, 692, 693, 695, 697, 699, 0, 0, 703, 702, 701]) (by decide +kernel) (by decide +kernel) rfl
  (List.forall_mem_cons.mpr ⟨dc_RT, List.forall_mem_cons.mpr ⟨dc_EX, List.forall_mem_cons.mpr ⟨dc_TH, List.forall_mem_cons.mpr ⟨Or.inr (Or.inr ⟨_, 6, rfl, ib_IA⟩), fun _ h => nomatch h⟩⟩⟩⟩)
set_option maxRecDepth 100000 in
theorem cl_NS : InT (.classLink RX10 357 NS) := ⟨List.mem_of_getElem? (i := 1105) rfl, rfl⟩
set_option maxRecDepth 100000 in
theorem in_NS : InT (.initialized NS) := ⟨List.mem_of_getElem? (i := 171) rfl, rfl⟩
set_option maxRecDepth 100000 in
theorem cl_IA : InT (.classLink RX10 364 IA) := ⟨List.mem_of_getElem? (i := 682) rfl, rfl⟩
set_option maxRecDepth 100000 in
theorem in_IA : InT (.initialized IA) := ⟨List.mem_of_getElem? (i := 163) rfl, rfl⟩
/-- a contract that throws E and leaves S' -/
def TH (g : Gp) (N : Mt) (d : Nat) (as : List Value) (S : Sx) (E : String) (S' : Sx) : Prop := ∀ sz, CT g N d 1 6 as (hs S) sz (fun o h sz' => o = .inr E ∧ h = hs S' ∧ sz ≤ sz')
section JTC
variable {g : Gp} {M N : Mt} {d d' n idx a pc : Nat} {ls : List (Option Value)} {st as rest : List Value} {S S' : Sx} {sz kc ks : Nat} {Q : Po} {E : String}
theorem TH_ofQ (hy : plainName N.1.cls = true ∧ isLaw N = false) (hn : (lsl as).length ≤ N.2.2.1) (k : ∀ sz Q, (∀ sz', sz ≤ sz' → Q (.inr E) (hs S') sz') → J g N d [] 0 (lsp N.2.2.1 (lsl as)) [] (hs S) sz 1 6 Q) : TH g N d as S E S' := fun sz => CT_of_J hy hn (J_forget (lsp_at _ _) (k sz _ (fun _ h => ⟨rfl, rfl, h⟩)))
theorem J_cvth (hM : isLaw M = false) (hd : decode M.2.1 pc = .ok (.invokevirtual idx, 3)) (hm : InT (.methodLink M.1.cls idx N.1)) (hc : CF N n) (hv : CFv N) (hT : TH g N d' (.ref a :: as) S E S') (hst : st = as.reverse ++ .ref a :: rest) (hn : as.length = n) (hcat : (rest.map fun v => v.category).sum ≤ 8) (hdd : d' + 1 ≤ d) (hk1 : 1 ≤ kc) (hk2 : 6 ≤ ks) (hrv : Rv (hs S) a N.1.cls) (hQ : ∀ sz', sz ≤ sz' → Q (.inr E) (hs S') sz') : J g M d [] pc ls st (hs S) sz kc ks Q := by
  refine J_cvT hM hd hm hc hv (hT sz) hst hn hcat hdd hk1 hk2 hrv (fun X h' sz' hq => ?_) (fun v h' sz' hq => ?_)
  · obtain ⟨e1, rfl, h3⟩ := hq
    cases e1
    exact hQ sz' h3
  · cases hq.1
end JTC
theorem th_NS {g : Gp} {S : Sx} (hl : (gl g).stackTraces = false) : TH g mX10_needElement 0 [.ref 0, .int 0] S NS (sF S 0 14 (sf S 0 14 + 1)) := by
  refine TH_ofQ ⟨rfl, rfl⟩ (Nat.le_of_ble_eq_true rfl) (fun sz Q hQ => ?_)
  refine J_iload_n (pc := 0) dX10_needElement_0 rfl ?_
  refine J_if_ne (pc := 1) (tgt := 25) dX10_needElement_1 (by decide) (fun c1 => absurd rfl c1) (fun c1 => ?_)
  refine J_aload_n (pc := 4) dX10_needElement_4 rfl ?_
  refine J_dup (pc := 5) dX10_needElement_5 rfl ?_
  refine J_geti (pc := 6) dX10_needElement_6 kc10 fl_X10_351 rfl ?_
  refine J_iconst (pc := 9) (v := 1) dX10_needElement_9 (by decide) ?_
  refine J_iadd (pc := 10) dX10_needElement_10 ?_
  refine J_puti (pc := 11) dX10_needElement_11 kc10 fl_X10_351 rfl ⟨rfl, rfl⟩ ?_
  exact J_thr (pc := 14) (yn := nRE) (r := nEE) (i := 6) hl rfl (by decide +kernel) (by decide +kernel) (by decide +kernel) (by decide) cl_NS in_NS rfl at_NS ⟨by decide +kernel, by decide +kernel, by decide +kernel, by decide +kernel⟩ dX10_needElement_14 dX10_needElement_17 dX10_needElement_18 dX10_needElement_21 dX10_needElement_24 (by decide) (by decide) (by decide) hQ
theorem th_IA {g : Gp} {S : Sx} (hl : (gl g).stackTraces = false) : TH g mX10_needArgument 0 [.ref 0, .int 0] S IA (sF S 0 15 (sf S 0 15 + 1)) := by
  refine TH_ofQ ⟨rfl, rfl⟩ (Nat.le_of_ble_eq_true rfl) (fun sz Q hQ => ?_)
  refine J_iload_n (pc := 0) dX10_needArgument_0 rfl ?_
  refine J_if_ne (pc := 1) (tgt := 25) dX10_needArgument_1 (by decide) (fun c1 => absurd rfl c1) (fun c1 => ?_)
  refine J_aload_n (pc := 4) dX10_needArgument_4 rfl ?_
  refine J_dup (pc := 5) dX10_needArgument_5 rfl ?_
  refine J_geti (pc := 6) dX10_needArgument_6 kc10 fl_X10_354 rfl ?_
  refine J_iconst (pc := 9) (v := 1) dX10_needArgument_9 (by decide) ?_
  refine J_iadd (pc := 10) dX10_needArgument_10 ?_
  refine J_puti (pc := 11) dX10_needArgument_11 kc10 fl_X10_354 rfl ⟨rfl, rfl⟩ ?_
  exact J_thr (pc := 14) (yn := nRE) (r := nEE) (i := 7) hl rfl (by decide +kernel) (by decide +kernel) (by decide +kernel) (by decide) cl_IA in_IA rfl at_IA ⟨by decide +kernel, by decide +kernel, by decide +kernel, by decide +kernel⟩ dX10_needArgument_14 dX10_needArgument_17 dX10_needArgument_18 dX10_needArgument_21 dX10_needArgument_24 (by decide) (by decide) (by decide) hQ
