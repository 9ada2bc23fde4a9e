/-- a method: its name, bytes, locals, answer -/
abbrev Mt : Type := MethodName × ByteArray × Nat × Option FieldType
abbrev Oc : Type := Option Value ⊕ String
abbrev Po : Type := Oc → AH → Nat → Prop
abbrev rmd (d kc ks : Nat) : Room := { frames := d + 8, cells := kc, slots := ks, locals := 60 * (d + 8) }
def Qcd (g : Gp) (Q : Po) : Array Value → State → Outcome → State → Prop := fun _ st o t => (∃ (v : Option Value) (h : AH) (sz : Nat), o = .returned (v.map (cv g)) ∧ Q (.inl v) h sz ∧ Hr g h sz t.heap) ∧ va_F (Ag g) st t
def Xcd (g : Gp) (Q : Po) : String → State → State → Prop := fun E st t => (∃ (h : AH) (sz : Nat), Q (.inr E) h sz ∧ Hr g h sz t.heap) ∧ va_F (Ag g) st t
/-- what stands fast while a body runs -/
def Cx (g : Gp) (M : Mt) (d mc ms : Nat) (p : Program) (s : State) (m : MethodId) (meth : Method) (c : Code) (R : Room) (tb : List ExceptionTableEntry) : Prop :=
  p.tables.exec = Jvm.exec ∧ c.code = M.2.1 ∧ c.maxLocals = M.2.2.1 ∧ meth.sig.returnType = M.2.2.2 ∧ s.vm.findClass M.1.cls = some m.cls ∧ meth.locks = false ∧ Sr g s s.heap ∧ d + 8 ≤ R.frames ∧ 60 * (d + 8) ≤ R.locals ∧ mc ≤ R.cells ∧ ms ≤ R.slots ∧ c.exceptionTable.toList = tb ∧ meth.name = M.1.name
def lw_Lim (below : List Frame) (a : Array Value) (s : State) : State → Prop := fun t => ∃ o, t.status = .running ∧ Ended t below o ∧ (o = .returned (some (.int 1)) ∧ Framed s o t [] 601024 7293034)
def isLaw (M : Mt) : Bool := M.1.name == "law" && M.1.cls == "RelicHouseLaw" && M.1.desc == "([I)Z"
/-- what a body owes at its end -/
def En (g : Gp) (M : Mt) (s : State) (args : Array Value) (below : List Frame) (mc ms : Nat) (Q : Po) (QF : State → Prop) : Prop :=
  (isLaw M = false ∧ QF = vx_MQ below (Qcd g Q) (Xcd g Q) args s mc ms (Ag g)) ∨ (isLaw M = true ∧ QF = lw_Lim below args s ∧ (∀ o h sz, Q o h sz → o = .inl (some (.int 1))) ∧ mc = 601024 ∧ ms = 7293034 ∧ gB g = s.heap.size)
def J (g : Gp) (M : Mt) (d : Nat) (tb : List ExceptionTableEntry) (pc : Nat) (ls : List (Option Value)) (st : List Value) (h : AH) (sz kc ks : Nat) (Q : Po) : Prop :=
  ∀ (p : Program) (e : Env) (s : State) (m : MethodId) (args : Array Value) (below : List Frame) (meth : Method) (c : Code) (R : Room) (mc ms : Nat) (QF : State → Prop), Cx g M d mc ms p s m meth c R tb → En g M s args below mc ms Q QF →
    ∀ (H : Heap) (locs : List Loc) (cells slots : Nat) (la : Array Slot), Hr g h sz H → va_S (Ag g) s.heap H locs → LR g la M.2.2.1 ls → cells + kc ≤ mc → slots + ks ≤ ms →
      W p (gl g) e R s m args below meth c H locs cells slots QF (F0 m pc la (st.map (cv g)))
def CT (g : Gp) (M : Mt) (d kc ks : Nat) (as : List Value) (h : AH) (sz : Nat) (Q : Po) : Prop :=
  vx_Met (gl g) M.1 [Cond.code M.1 M.2.1 M.2.2.1 M.2.2.2] (rmd d kc ks) (va_Pc (as.map (cv g)) (fun U => Hr g h sz U.heap ∧ Sr g U U.heap)) (Qcd g Q) (Xcd g Q) kc ks (Ag g)
def lsl : List Value → List (Option Value)
  | [] => []
  | .long x :: t => some (.long x) :: none :: lsl t
  | .double x :: t => some (.double x) :: none :: lsl t
  | v :: t => some v :: lsl t
def CTl : List Value → Nat
  | [] => 0
  | v :: t => v.category + CTl t
section JR
variable {g : Gp} {M : Mt} {d : Nat} {tb : List ExceptionTableEntry} {pc : Nat} {ls ls' : List (Option Value)} {st : List Value} {h : AH} {sz kc ks : Nat} {Q : Po}
theorem J_iconst {n : Int} {v : Int32} (hd : decode M.2.1 pc = .ok (.iconst n, 1)) (hv : Int32.ofInt n = v) (k : J g M d tb (pc + 1) ls (.int v :: st) h sz kc ks Q) : J g M d tb pc ls st h sz kc ks Q := by
  intro p e s m args below meth c R mc ms QF C E H locs cells slots la hH hS hl h1 h2
  exact lv_iconst C.1 C.2.1 hd hv (k p e s m args below meth c R mc ms QF C E H locs cells slots la hH hS hl h1 h2)
theorem J_bipush {n : Int} {v : Int32} (hd : decode M.2.1 pc = .ok (.bipush n, 2)) (hv : (Int8.ofInt n).toInt32 = v) (k : J g M d tb (pc + 2) ls (.int v :: st) h sz kc ks Q) : J g M d tb pc ls st h sz kc ks Q := by
  intro p e s m args below meth c R mc ms QF C E H locs cells slots la hH hS hl h1 h2
  exact lv_bipush C.1 C.2.1 hd hv (k p e s m args below meth c R mc ms QF C E H locs cells slots la hH hS hl h1 h2)
theorem J_sipush {n : Int} {v : Int32} (hd : decode M.2.1 pc = .ok (.sipush n, 3)) (hv : (Int16.ofInt n).toInt32 = v) (k : J g M d tb (pc + 3) ls (.int v :: st) h sz kc ks Q) : J g M d tb pc ls st h sz kc ks Q := by
  intro p e s m args below meth c R mc ms QF C E H locs cells slots la hH hS hl h1 h2
  exact lv_sipush C.1 C.2.1 hd hv (k p e s m args below meth c R mc ms QF C E H locs cells slots la hH hS hl h1 h2)
theorem J_lconst {n : Fin 2} {v : Int64} (hd : decode M.2.1 pc = .ok (.lconst n, 1)) (hv : Int64.ofNat (n : Nat) = v) (k : J g M d tb (pc + 1) ls (.long v :: st) h sz kc ks Q) : J g M d tb pc ls st h sz kc ks Q := by
  intro p e s m args below meth c R mc ms QF C E H locs cells slots la hH hS hl h1 h2
  exact lv_lconst C.1 C.2.1 hd hv (k p e s m args below meth c R mc ms QF C E H locs cells slots la hH hS hl h1 h2)
theorem J_iload {i : Nat} {x : Int32} (hd : decode M.2.1 pc = .ok (.iload i, 2)) (hx : ls[i]? = some (some (.int x))) (k : J g M d tb (pc + 2) ls (.int x :: st) h sz kc ks Q) : J g M d tb pc ls st h sz kc ks Q := by
  intro p e s m args below meth c R mc ms QF C E H locs cells slots la hH hS hl h1 h2
  exact lv_iload C.1 C.2.1 hd (hl.2.2 i _ hx) (k p e s m args below meth c R mc ms QF C E H locs cells slots la hH hS hl h1 h2)
theorem J_iload_n {i : Fin 4} {x : Int32} (hd : decode M.2.1 pc = .ok (.iload_n i, 1)) (hx : ls[(i : Nat)]? = some (some (.int x))) (k : J g M d tb (pc + 1) ls (.int x :: st) h sz kc ks Q) : J g M d tb pc ls st h sz kc ks Q := by
  intro p e s m args below meth c R mc ms QF C E H locs cells slots la hH hS hl h1 h2
  exact lv_iload_n C.1 C.2.1 hd rfl (hl.2.2 _ _ hx) (k p e s m args below meth c R mc ms QF C E H locs cells slots la hH hS hl h1 h2)
theorem J_lload {i : Nat} {x : Int64} (hd : decode M.2.1 pc = .ok (.lload i, 2)) (hx : ls[i]? = some (some (.long x))) (k : J g M d tb (pc + 2) ls (.long x :: st) h sz kc ks Q) : J g M d tb pc ls st h sz kc ks Q := by
  intro p e s m args below meth c R mc ms QF C E H locs cells slots la hH hS hl h1 h2
  exact lv_lload C.1 C.2.1 hd (hl.2.2 i _ hx) (k p e s m args below meth c R mc ms QF C E H locs cells slots la hH hS hl h1 h2)
theorem J_lload_n {i : Fin 4} {x : Int64} (hd : decode M.2.1 pc = .ok (.lload_n i, 1)) (hx : ls[(i : Nat)]? = some (some (.long x))) (k : J g M d tb (pc + 1) ls (.long x :: st) h sz kc ks Q) : J g M d tb pc ls st h sz kc ks Q := by
  intro p e s m args below meth c R mc ms QF C E H locs cells slots la hH hS hl h1 h2
  exact lv_lload_n C.1 C.2.1 hd rfl (hl.2.2 _ _ hx) (k p e s m args below meth c R mc ms QF C E H locs cells slots la hH hS hl h1 h2)
theorem J_aload {i : Nat} {x : Nat} (hd : decode M.2.1 pc = .ok (.aload i, 2)) (hx : ls[i]? = some (some (.ref x))) (k : J g M d tb (pc + 2) ls (.ref x :: st) h sz kc ks Q) : J g M d tb pc ls st h sz kc ks Q := by
  intro p e s m args below meth c R mc ms QF C E H locs cells slots la hH hS hl h1 h2
  exact lv_aload C.1 C.2.1 hd (hl.2.2 i _ hx) (k p e s m args below meth c R mc ms QF C E H locs cells slots la hH hS hl h1 h2)
theorem J_aload_n {i : Fin 4} {x : Nat} (hd : decode M.2.1 pc = .ok (.aload_n i, 1)) (hx : ls[(i : Nat)]? = some (some (.ref x))) (k : J g M d tb (pc + 1) ls (.ref x :: st) h sz kc ks Q) : J g M d tb pc ls st h sz kc ks Q := by
  intro p e s m args below meth c R mc ms QF C E H locs cells slots la hH hS hl h1 h2
  exact lv_aload_n C.1 C.2.1 hd rfl (hl.2.2 _ _ hx) (k p e s m args below meth c R mc ms QF C E H locs cells slots la hH hS hl h1 h2)
theorem J_iadd {x y : Int32} (hd : decode M.2.1 pc = .ok (.iadd, 1))  (k : J g M d tb (pc + 1) ls (.int (x + y) :: st) h sz kc ks Q) : J g M d tb pc ls (.int y :: .int x :: st) h sz kc ks Q := by
  intro p e s m args below meth c R mc ms QF C E H locs cells slots la hH hS hl h1 h2
  exact lv_iadd C.1 C.2.1 hd  (k p e s m args below meth c R mc ms QF C E H locs cells slots la hH hS hl h1 h2)
theorem J_isub {x y : Int32} (hd : decode M.2.1 pc = .ok (.isub, 1))  (k : J g M d tb (pc + 1) ls (.int (x - y) :: st) h sz kc ks Q) : J g M d tb pc ls (.int y :: .int x :: st) h sz kc ks Q := by
  intro p e s m args below meth c R mc ms QF C E H locs cells slots la hH hS hl h1 h2
  exact lv_isub C.1 C.2.1 hd  (k p e s m args below meth c R mc ms QF C E H locs cells slots la hH hS hl h1 h2)
theorem J_imul {x y : Int32} (hd : decode M.2.1 pc = .ok (.imul, 1))  (k : J g M d tb (pc + 1) ls (.int (x * y) :: st) h sz kc ks Q) : J g M d tb pc ls (.int y :: .int x :: st) h sz kc ks Q := by
  intro p e s m args below meth c R mc ms QF C E H locs cells slots la hH hS hl h1 h2
  exact lv_imul C.1 C.2.1 hd  (k p e s m args below meth c R mc ms QF C E H locs cells slots la hH hS hl h1 h2)
theorem J_iand {x y : Int32} (hd : decode M.2.1 pc = .ok (.iand, 1))  (k : J g M d tb (pc + 1) ls (.int (x &&& y) :: st) h sz kc ks Q) : J g M d tb pc ls (.int y :: .int x :: st) h sz kc ks Q := by
  intro p e s m args below meth c R mc ms QF C E H locs cells slots la hH hS hl h1 h2
  exact lv_iand C.1 C.2.1 hd  (k p e s m args below meth c R mc ms QF C E H locs cells slots la hH hS hl h1 h2)
theorem J_ior {x y : Int32} (hd : decode M.2.1 pc = .ok (.ior, 1))  (k : J g M d tb (pc + 1) ls (.int (x ||| y) :: st) h sz kc ks Q) : J g M d tb pc ls (.int y :: .int x :: st) h sz kc ks Q := by
  intro p e s m args below meth c R mc ms QF C E H locs cells slots la hH hS hl h1 h2
  exact lv_ior C.1 C.2.1 hd  (k p e s m args below meth c R mc ms QF C E H locs cells slots la hH hS hl h1 h2)
theorem J_ixor {x y : Int32} (hd : decode M.2.1 pc = .ok (.ixor, 1))  (k : J g M d tb (pc + 1) ls (.int (x ^^^ y) :: st) h sz kc ks Q) : J g M d tb pc ls (.int y :: .int x :: st) h sz kc ks Q := by
  intro p e s m args below meth c R mc ms QF C E H locs cells slots la hH hS hl h1 h2
  exact lv_ixor C.1 C.2.1 hd  (k p e s m args below meth c R mc ms QF C E H locs cells slots la hH hS hl h1 h2)
theorem J_ishl {x y : Int32} (hd : decode M.2.1 pc = .ok (.ishl, 1))  (k : J g M d tb (pc + 1) ls (.int (x <<< (y &&& 31)) :: st) h sz kc ks Q) : J g M d tb pc ls (.int y :: .int x :: st) h sz kc ks Q := by
  intro p e s m args below meth c R mc ms QF C E H locs cells slots la hH hS hl h1 h2
  exact lv_ishl C.1 C.2.1 hd  (k p e s m args below meth c R mc ms QF C E H locs cells slots la hH hS hl h1 h2)
theorem J_ishr {x y : Int32} (hd : decode M.2.1 pc = .ok (.ishr, 1))  (k : J g M d tb (pc + 1) ls (.int (x >>> (y &&& 31)) :: st) h sz kc ks Q) : J g M d tb pc ls (.int y :: .int x :: st) h sz kc ks Q := by
  intro p e s m args below meth c R mc ms QF C E H locs cells slots la hH hS hl h1 h2
  exact lv_ishr C.1 C.2.1 hd  (k p e s m args below meth c R mc ms QF C E H locs cells slots la hH hS hl h1 h2)
theorem J_idiv {x y : Int32} (hd : decode M.2.1 pc = .ok (.idiv, 1)) (hne : ¬ y = 0) (k : J g M d tb (pc + 1) ls (.int (x / y) :: st) h sz kc ks Q) : J g M d tb pc ls (.int y :: .int x :: st) h sz kc ks Q := by
  intro p e s m args below meth c R mc ms QF C E H locs cells slots la hH hS hl h1 h2
  exact lv_idiv C.1 C.2.1 hd hne (k p e s m args below meth c R mc ms QF C E H locs cells slots la hH hS hl h1 h2)
theorem J_irem {x y : Int32} (hd : decode M.2.1 pc = .ok (.irem, 1)) (hne : ¬ y = 0) (k : J g M d tb (pc + 1) ls (.int (x - x / y * y) :: st) h sz kc ks Q) : J g M d tb pc ls (.int y :: .int x :: st) h sz kc ks Q := by
  intro p e s m args below meth c R mc ms QF C E H locs cells slots la hH hS hl h1 h2
  exact lv_irem C.1 C.2.1 hd hne (k p e s m args below meth c R mc ms QF C E H locs cells slots la hH hS hl h1 h2)
theorem J_ladd {x y : Int64} (hd : decode M.2.1 pc = .ok (.ladd, 1))  (k : J g M d tb (pc + 1) ls (.long (x + y) :: st) h sz kc ks Q) : J g M d tb pc ls (.long y :: .long x :: st) h sz kc ks Q := by
  intro p e s m args below meth c R mc ms QF C E H locs cells slots la hH hS hl h1 h2
  exact lv_ladd C.1 C.2.1 hd  (k p e s m args below meth c R mc ms QF C E H locs cells slots la hH hS hl h1 h2)
theorem J_lmul {x y : Int64} (hd : decode M.2.1 pc = .ok (.lmul, 1))  (k : J g M d tb (pc + 1) ls (.long (x * y) :: st) h sz kc ks Q) : J g M d tb pc ls (.long y :: .long x :: st) h sz kc ks Q := by
  intro p e s m args below meth c R mc ms QF C E H locs cells slots la hH hS hl h1 h2
  exact lv_lmul C.1 C.2.1 hd  (k p e s m args below meth c R mc ms QF C E H locs cells slots la hH hS hl h1 h2)
theorem J_land {x y : Int64} (hd : decode M.2.1 pc = .ok (.land, 1))  (k : J g M d tb (pc + 1) ls (.long (x &&& y) :: st) h sz kc ks Q) : J g M d tb pc ls (.long y :: .long x :: st) h sz kc ks Q := by
  intro p e s m args below meth c R mc ms QF C E H locs cells slots la hH hS hl h1 h2
  exact lv_land C.1 C.2.1 hd  (k p e s m args below meth c R mc ms QF C E H locs cells slots la hH hS hl h1 h2)
theorem J_ldiv {x y : Int64} (hd : decode M.2.1 pc = .ok (.ldiv, 1)) (hne : ¬ y = 0) (k : J g M d tb (pc + 1) ls (.long (x / y) :: st) h sz kc ks Q) : J g M d tb pc ls (.long y :: .long x :: st) h sz kc ks Q := by
  intro p e s m args below meth c R mc ms QF C E H locs cells slots la hH hS hl h1 h2
  exact lv_ldiv C.1 C.2.1 hd hne (k p e s m args below meth c R mc ms QF C E H locs cells slots la hH hS hl h1 h2)
theorem J_lrem {x y : Int64} (hd : decode M.2.1 pc = .ok (.lrem, 1)) (hne : ¬ y = 0) (k : J g M d tb (pc + 1) ls (.long (x - x / y * y) :: st) h sz kc ks Q) : J g M d tb pc ls (.long y :: .long x :: st) h sz kc ks Q := by
  intro p e s m args below meth c R mc ms QF C E H locs cells slots la hH hS hl h1 h2
  exact lv_lrem C.1 C.2.1 hd hne (k p e s m args below meth c R mc ms QF C E H locs cells slots la hH hS hl h1 h2)
theorem J_lcmp {x y : Int64} (hd : decode M.2.1 pc = .ok (.lcmp, 1))  (k : J g M d tb (pc + 1) ls (.int (lg_cmp x y) :: st) h sz kc ks Q) : J g M d tb pc ls (.long y :: .long x :: st) h sz kc ks Q := by
  intro p e s m args below meth c R mc ms QF C E H locs cells slots la hH hS hl h1 h2
  exact W.lcmp C.1 C.2.1 hd  (k p e s m args below meth c R mc ms QF C E H locs cells slots la hH hS hl h1 h2)
theorem J_ineg {x : Int32} (hd : decode M.2.1 pc = .ok (.ineg, 1))  (k : J g M d tb (pc + 1) ls (.int (-x) :: st) h sz kc ks Q) : J g M d tb pc ls (.int x :: st) h sz kc ks Q := by
  intro p e s m args below meth c R mc ms QF C E H locs cells slots la hH hS hl h1 h2
  exact lv_ineg C.1 C.2.1 hd  (k p e s m args below meth c R mc ms QF C E H locs cells slots la hH hS hl h1 h2)
theorem J_i2l {x : Int32} (hd : decode M.2.1 pc = .ok (.i2l, 1))  (k : J g M d tb (pc + 1) ls (.long x.toInt64 :: st) h sz kc ks Q) : J g M d tb pc ls (.int x :: st) h sz kc ks Q := by
  intro p e s m args below meth c R mc ms QF C E H locs cells slots la hH hS hl h1 h2
  exact lv_i2l C.1 C.2.1 hd rfl (k p e s m args below meth c R mc ms QF C E H locs cells slots la hH hS hl h1 h2)
theorem J_i2b {x : Int32} (hd : decode M.2.1 pc = .ok (.i2b, 1))  (k : J g M d tb (pc + 1) ls (.int x.toInt8.toInt32 :: st) h sz kc ks Q) : J g M d tb pc ls (.int x :: st) h sz kc ks Q := by
  intro p e s m args below meth c R mc ms QF C E H locs cells slots la hH hS hl h1 h2
  exact lv_i2b C.1 C.2.1 hd rfl (k p e s m args below meth c R mc ms QF C E H locs cells slots la hH hS hl h1 h2)
theorem J_i2c {x : Int32} (hd : decode M.2.1 pc = .ok (.i2c, 1))  (k : J g M d tb (pc + 1) ls (.int (x.toUInt32 % 65536).toInt32 :: st) h sz kc ks Q) : J g M d tb pc ls (.int x :: st) h sz kc ks Q := by
  intro p e s m args below meth c R mc ms QF C E H locs cells slots la hH hS hl h1 h2
  exact lv_i2c C.1 C.2.1 hd rfl (k p e s m args below meth c R mc ms QF C E H locs cells slots la hH hS hl h1 h2)
theorem J_iushr {x y : Int32} (hd : decode M.2.1 pc = .ok (.iushr, 1))  (k : J g M d tb (pc + 1) ls (.int (x.toUInt32 >>> (y.toUInt32 &&& Int32.toUInt32 31)).toInt32 :: st) h sz kc ks Q) : J g M d tb pc ls (.int y :: .int x :: st) h sz kc ks Q := by
  intro p e s m args below meth c R mc ms QF C E H locs cells slots la hH hS hl h1 h2
  exact lv_iushr C.1 C.2.1 hd rfl (k p e s m args below meth c R mc ms QF C E H locs cells slots la hH hS hl h1 h2)
theorem J_lshl {x : Int64} {y : Int32} (hd : decode M.2.1 pc = .ok (.lshl, 1))  (k : J g M d tb (pc + 1) ls (.long (x <<< (y.toInt64 &&& 63)) :: st) h sz kc ks Q) : J g M d tb pc ls (.int y :: .long x :: st) h sz kc ks Q := by
  intro p e s m args below meth c R mc ms QF C E H locs cells slots la hH hS hl h1 h2
  exact lv_lshl C.1 C.2.1 hd rfl (k p e s m args below meth c R mc ms QF C E H locs cells slots la hH hS hl h1 h2)
theorem J_dup {v : Value} (hd : decode M.2.1 pc = .ok (.dup, 1)) (hv : v.category = 1) (k : J g M d tb (pc + 1) ls (v :: v :: st) h sz kc ks Q) : J g M d tb pc ls (v :: st) h sz kc ks Q := by
  intro p e s m args below meth c R mc ms QF C E H locs cells slots la hH hS hl h1 h2
  exact lv_dup C.1 C.2.1 hd ((cv_cat g v).trans hv) (k p e s m args below meth c R mc ms QF C E H locs cells slots la hH hS hl h1 h2)
theorem J_pop {v : Value} (hd : decode M.2.1 pc = .ok (.pop, 1)) (hv : v.category = 1) (k : J g M d tb (pc + 1) ls st h sz kc ks Q) : J g M d tb pc ls (v :: st) h sz kc ks Q := by
  intro p e s m args below meth c R mc ms QF C E H locs cells slots la hH hS hl h1 h2
  exact lv_pop C.1 C.2.1 hd ((cv_cat g v).trans hv) (k p e s m args below meth c R mc ms QF C E H locs cells slots la hH hS hl h1 h2)
theorem J_dup2 {v w : Value} (hd : decode M.2.1 pc = .ok (.dup2, 1)) (hv : v.category = 1) (hw : w.category = 1) (k : J g M d tb (pc + 1) ls (v :: w :: v :: w :: st) h sz kc ks Q) : J g M d tb pc ls (v :: w :: st) h sz kc ks Q := by
  intro p e s m args below meth c R mc ms QF C E H locs cells slots la hH hS hl h1 h2
  exact lv_dup2_11 C.1 C.2.1 hd ((cv_cat g v).trans hv) ((cv_cat g w).trans hw) (k p e s m args below meth c R mc ms QF C E H locs cells slots la hH hS hl h1 h2)
theorem J_istore {i : Nat} {x : Int32} (hd : decode M.2.1 pc = .ok (.istore i, 2)) (hn : i < M.2.2.1) (he : sto1 ls i (.int x) = ls') (k : J g M d tb (pc + 2) ls' st h sz kc ks Q) : J g M d tb pc ls (.int x :: st) h sz kc ks Q := by
  intro p e s m args below meth c R mc ms QF C E H locs cells slots la hH hS hl h1 h2
  subst he
  exact lv_istore C.1 C.2.1 hd hl.has hn rfl (fun la' hl' => k p e s m args below meth c R mc ms QF C E H locs cells slots la' hH hS (LR.sto1 (v := .int x) hl hl') h1 h2)
theorem J_istore_n {i : Fin 4} {x : Int32} (hd : decode M.2.1 pc = .ok (.istore_n i, 1)) (hn : (i : Nat) < M.2.2.1) (he : sto1 ls (i : Nat) (.int x) = ls') (k : J g M d tb (pc + 1) ls' st h sz kc ks Q) : J g M d tb pc ls (.int x :: st) h sz kc ks Q := by
  intro p e s m args below meth c R mc ms QF C E H locs cells slots la hH hS hl h1 h2
  subst he
  exact lv_istore_n C.1 C.2.1 hd rfl hl.has hn rfl (fun la' hl' => k p e s m args below meth c R mc ms QF C E H locs cells slots la' hH hS (LR.sto1 (v := .int x) hl hl') h1 h2)
theorem J_astore {i : Nat} {x : Nat} (hd : decode M.2.1 pc = .ok (.astore i, 2)) (hn : i < M.2.2.1) (he : sto1 ls i (.ref x) = ls') (k : J g M d tb (pc + 2) ls' st h sz kc ks Q) : J g M d tb pc ls (.ref x :: st) h sz kc ks Q := by
  intro p e s m args below meth c R mc ms QF C E H locs cells slots la hH hS hl h1 h2
  subst he
  exact lv_astore C.1 C.2.1 hd hl.has hn rfl (fun la' hl' => k p e s m args below meth c R mc ms QF C E H locs cells slots la' hH hS (LR.sto1 (v := .ref x) hl hl') h1 h2)
theorem J_astore_n {i : Fin 4} {x : Nat} (hd : decode M.2.1 pc = .ok (.astore_n i, 1)) (hn : (i : Nat) < M.2.2.1) (he : sto1 ls (i : Nat) (.ref x) = ls') (k : J g M d tb (pc + 1) ls' st h sz kc ks Q) : J g M d tb pc ls (.ref x :: st) h sz kc ks Q := by
  intro p e s m args below meth c R mc ms QF C E H locs cells slots la hH hS hl h1 h2
  subst he
  exact lv_astore_n C.1 C.2.1 hd rfl hl.has hn rfl (fun la' hl' => k p e s m args below meth c R mc ms QF C E H locs cells slots la' hH hS (LR.sto1 (v := .ref x) hl hl') h1 h2)
theorem J_lstore {i : Nat} {x : Int64} (hd : decode M.2.1 pc = .ok (.lstore i, 2)) (hn : i + 1 < M.2.2.1) (he : sto2 ls i (.long x) = ls') (k : J g M d tb (pc + 2) ls' st h sz kc ks Q) : J g M d tb pc ls (.long x :: st) h sz kc ks Q := by
  intro p e s m args below meth c R mc ms QF C E H locs cells slots la hH hS hl h1 h2
  subst he
  exact lv_lstore C.1 C.2.1 hd hl.has hn rfl (fun la' hl' => k p e s m args below meth c R mc ms QF C E H locs cells slots la' hH hS (LR.sto2 (v := .long x) hl hl') h1 h2)
theorem J_lstore_n {i : Fin 4} {x : Int64} (hd : decode M.2.1 pc = .ok (.lstore_n i, 1)) (hn : (i : Nat) + 1 < M.2.2.1) (he : sto2 ls (i : Nat) (.long x) = ls') (k : J g M d tb (pc + 1) ls' st h sz kc ks Q) : J g M d tb pc ls (.long x :: st) h sz kc ks Q := by
  intro p e s m args below meth c R mc ms QF C E H locs cells slots la hH hS hl h1 h2
  subst he
  exact lv_lstore_n C.1 C.2.1 hd rfl hl.has hn rfl (fun la' hl' => k p e s m args below meth c R mc ms QF C E H locs cells slots la' hH hS (LR.sto2 (v := .long x) hl hl') h1 h2)
theorem J_iinc {i : Nat} {n : Int} {x v : Int32} (hd : decode M.2.1 pc = .ok (.iinc i n, 3)) (hx : ls[i]? = some (some (.int x))) (hv : Int32.ofInt n = v) (he : sto1 ls i (.int (x + v)) = ls') (k : J g M d tb (pc + 3) ls' st h sz kc ks Q) : J g M d tb pc ls st h sz kc ks Q := by
  intro p e s m args below meth c R mc ms QF C E H locs cells slots la hH hS hl h1 h2
  subst he
  subst hv
  obtain ⟨j, hj⟩ := List.getElem?_of_mem (lrl_mem (g := g) (hl.lt hx) hx)
  exact lv_iinc C.1 C.2.1 hd hl.has hj rfl (hl.lt hx) rfl (fun la' hl' => k p e s m args below meth c R mc ms QF C E H locs cells slots la' hH hS (LR.sto1 (v := .int _) hl hl') h1 h2)
theorem J_icmp_eq {x y : Int32} {off : Int} {tgt : Nat} (hd : decode M.2.1 pc = .ok (.if_icmp .eq off, 3)) (ht : (pc : Int) + off = (tgt : Int)) (kt : x = y → J g M d tb tgt ls st h sz kc ks Q) (kf : ¬ x = y → J g M d tb (pc + 3) ls st h sz kc ks Q) : J g M d tb pc ls (.int y :: .int x :: st) h sz kc ks Q := by
  intro p e s m args below meth c R mc ms QF C E H locs cells slots la hH hS hl h1 h2
  exact lv_icmp_eq C.1 C.2.1 hd ht (fun q => kt q p e s m args below meth c R mc ms QF C E H locs cells slots la hH hS hl h1 h2) (fun q => kf q p e s m args below meth c R mc ms QF C E H locs cells slots la hH hS hl h1 h2)
theorem J_if_eq {x : Int32} {off : Int} {tgt : Nat} (hd : decode M.2.1 pc = .ok (.ifCond .eq off, 3)) (ht : (pc : Int) + off = (tgt : Int)) (kt : x = 0 → J g M d tb tgt ls st h sz kc ks Q) (kf : ¬ x = 0 → J g M d tb (pc + 3) ls st h sz kc ks Q) : J g M d tb pc ls (.int x :: st) h sz kc ks Q := by
  intro p e s m args below meth c R mc ms QF C E H locs cells slots la hH hS hl h1 h2
  exact lv_if_eq C.1 C.2.1 hd ht (fun q => kt q p e s m args below meth c R mc ms QF C E H locs cells slots la hH hS hl h1 h2) (fun q => kf q p e s m args below meth c R mc ms QF C E H locs cells slots la hH hS hl h1 h2)
theorem J_icmp_ne {x y : Int32} {off : Int} {tgt : Nat} (hd : decode M.2.1 pc = .ok (.if_icmp .ne off, 3)) (ht : (pc : Int) + off = (tgt : Int)) (kt : ¬ x = y → J g M d tb tgt ls st h sz kc ks Q) (kf : x = y → J g M d tb (pc + 3) ls st h sz kc ks Q) : J g M d tb pc ls (.int y :: .int x :: st) h sz kc ks Q := by
  intro p e s m args below meth c R mc ms QF C E H locs cells slots la hH hS hl h1 h2
  exact lv_icmp_ne C.1 C.2.1 hd ht (fun q => kt q p e s m args below meth c R mc ms QF C E H locs cells slots la hH hS hl h1 h2) (fun q => kf q p e s m args below meth c R mc ms QF C E H locs cells slots la hH hS hl h1 h2)
theorem J_if_ne {x : Int32} {off : Int} {tgt : Nat} (hd : decode M.2.1 pc = .ok (.ifCond .ne off, 3)) (ht : (pc : Int) + off = (tgt : Int)) (kt : ¬ x = 0 → J g M d tb tgt ls st h sz kc ks Q) (kf : x = 0 → J g M d tb (pc + 3) ls st h sz kc ks Q) : J g M d tb pc ls (.int x :: st) h sz kc ks Q := by
  intro p e s m args below meth c R mc ms QF C E H locs cells slots la hH hS hl h1 h2
  exact lv_if_ne C.1 C.2.1 hd ht (fun q => kt q p e s m args below meth c R mc ms QF C E H locs cells slots la hH hS hl h1 h2) (fun q => kf q p e s m args below meth c R mc ms QF C E H locs cells slots la hH hS hl h1 h2)
theorem J_icmp_lt {x y : Int32} {off : Int} {tgt : Nat} (hd : decode M.2.1 pc = .ok (.if_icmp .lt off, 3)) (ht : (pc : Int) + off = (tgt : Int)) (kt : x < y → J g M d tb tgt ls st h sz kc ks Q) (kf : ¬ x < y → J g M d tb (pc + 3) ls st h sz kc ks Q) : J g M d tb pc ls (.int y :: .int x :: st) h sz kc ks Q := by
  intro p e s m args below meth c R mc ms QF C E H locs cells slots la hH hS hl h1 h2
  exact lv_icmp_lt C.1 C.2.1 hd ht (fun q => kt q p e s m args below meth c R mc ms QF C E H locs cells slots la hH hS hl h1 h2) (fun q => kf q p e s m args below meth c R mc ms QF C E H locs cells slots la hH hS hl h1 h2)
theorem J_if_lt {x : Int32} {off : Int} {tgt : Nat} (hd : decode M.2.1 pc = .ok (.ifCond .lt off, 3)) (ht : (pc : Int) + off = (tgt : Int)) (kt : x < 0 → J g M d tb tgt ls st h sz kc ks Q) (kf : ¬ x < 0 → J g M d tb (pc + 3) ls st h sz kc ks Q) : J g M d tb pc ls (.int x :: st) h sz kc ks Q := by
  intro p e s m args below meth c R mc ms QF C E H locs cells slots la hH hS hl h1 h2
  exact lv_if_lt C.1 C.2.1 hd ht (fun q => kt q p e s m args below meth c R mc ms QF C E H locs cells slots la hH hS hl h1 h2) (fun q => kf q p e s m args below meth c R mc ms QF C E H locs cells slots la hH hS hl h1 h2)
theorem J_icmp_ge {x y : Int32} {off : Int} {tgt : Nat} (hd : decode M.2.1 pc = .ok (.if_icmp .ge off, 3)) (ht : (pc : Int) + off = (tgt : Int)) (kt : y ≤ x → J g M d tb tgt ls st h sz kc ks Q) (kf : ¬ y ≤ x → J g M d tb (pc + 3) ls st h sz kc ks Q) : J g M d tb pc ls (.int y :: .int x :: st) h sz kc ks Q := by
  intro p e s m args below meth c R mc ms QF C E H locs cells slots la hH hS hl h1 h2
  exact lv_icmp_ge C.1 C.2.1 hd ht (fun q => kt q p e s m args below meth c R mc ms QF C E H locs cells slots la hH hS hl h1 h2) (fun q => kf q p e s m args below meth c R mc ms QF C E H locs cells slots la hH hS hl h1 h2)
theorem J_if_ge {x : Int32} {off : Int} {tgt : Nat} (hd : decode M.2.1 pc = .ok (.ifCond .ge off, 3)) (ht : (pc : Int) + off = (tgt : Int)) (kt : 0 ≤ x → J g M d tb tgt ls st h sz kc ks Q) (kf : ¬ 0 ≤ x → J g M d tb (pc + 3) ls st h sz kc ks Q) : J g M d tb pc ls (.int x :: st) h sz kc ks Q := by
  intro p e s m args below meth c R mc ms QF C E H locs cells slots la hH hS hl h1 h2
  exact lv_if_ge C.1 C.2.1 hd ht (fun q => kt q p e s m args below meth c R mc ms QF C E H locs cells slots la hH hS hl h1 h2) (fun q => kf q p e s m args below meth c R mc ms QF C E H locs cells slots la hH hS hl h1 h2)
theorem J_icmp_gt {x y : Int32} {off : Int} {tgt : Nat} (hd : decode M.2.1 pc = .ok (.if_icmp .gt off, 3)) (ht : (pc : Int) + off = (tgt : Int)) (kt : y < x → J g M d tb tgt ls st h sz kc ks Q) (kf : ¬ y < x → J g M d tb (pc + 3) ls st h sz kc ks Q) : J g M d tb pc ls (.int y :: .int x :: st) h sz kc ks Q := by
  intro p e s m args below meth c R mc ms QF C E H locs cells slots la hH hS hl h1 h2
  exact lv_icmp_gt C.1 C.2.1 hd ht (fun q => kt q p e s m args below meth c R mc ms QF C E H locs cells slots la hH hS hl h1 h2) (fun q => kf q p e s m args below meth c R mc ms QF C E H locs cells slots la hH hS hl h1 h2)
theorem J_if_gt {x : Int32} {off : Int} {tgt : Nat} (hd : decode M.2.1 pc = .ok (.ifCond .gt off, 3)) (ht : (pc : Int) + off = (tgt : Int)) (kt : 0 < x → J g M d tb tgt ls st h sz kc ks Q) (kf : ¬ 0 < x → J g M d tb (pc + 3) ls st h sz kc ks Q) : J g M d tb pc ls (.int x :: st) h sz kc ks Q := by
  intro p e s m args below meth c R mc ms QF C E H locs cells slots la hH hS hl h1 h2
  exact lv_if_gt C.1 C.2.1 hd ht (fun q => kt q p e s m args below meth c R mc ms QF C E H locs cells slots la hH hS hl h1 h2) (fun q => kf q p e s m args below meth c R mc ms QF C E H locs cells slots la hH hS hl h1 h2)
theorem J_icmp_le {x y : Int32} {off : Int} {tgt : Nat} (hd : decode M.2.1 pc = .ok (.if_icmp .le off, 3)) (ht : (pc : Int) + off = (tgt : Int)) (kt : x ≤ y → J g M d tb tgt ls st h sz kc ks Q) (kf : ¬ x ≤ y → J g M d tb (pc + 3) ls st h sz kc ks Q) : J g M d tb pc ls (.int y :: .int x :: st) h sz kc ks Q := by
  intro p e s m args below meth c R mc ms QF C E H locs cells slots la hH hS hl h1 h2
  exact lv_icmp_le C.1 C.2.1 hd ht (fun q => kt q p e s m args below meth c R mc ms QF C E H locs cells slots la hH hS hl h1 h2) (fun q => kf q p e s m args below meth c R mc ms QF C E H locs cells slots la hH hS hl h1 h2)
theorem J_if_le {x : Int32} {off : Int} {tgt : Nat} (hd : decode M.2.1 pc = .ok (.ifCond .le off, 3)) (ht : (pc : Int) + off = (tgt : Int)) (kt : x ≤ 0 → J g M d tb tgt ls st h sz kc ks Q) (kf : ¬ x ≤ 0 → J g M d tb (pc + 3) ls st h sz kc ks Q) : J g M d tb pc ls (.int x :: st) h sz kc ks Q := by
  intro p e s m args below meth c R mc ms QF C E H locs cells slots la hH hS hl h1 h2
  exact lv_if_le C.1 C.2.1 hd ht (fun q => kt q p e s m args below meth c R mc ms QF C E H locs cells slots la hH hS hl h1 h2) (fun q => kf q p e s m args below meth c R mc ms QF C E H locs cells slots la hH hS hl h1 h2)
theorem J_goto {off : Int} {tgt : Nat} (hd : decode M.2.1 pc = .ok (.goto off, 3)) (ht : (pc : Int) + off = (tgt : Int)) (k : J g M d tb tgt ls st h sz kc ks Q) : J g M d tb pc ls st h sz kc ks Q := by
  intro p e s m args below meth c R mc ms QF C E H locs cells slots la hH hS hl h1 h2
  exact lv_goto C.1 C.2.1 hd ht (k p e s m args below meth c R mc ms QF C E H locs cells slots la hH hS hl h1 h2)
theorem J_lookup {dflt : Int} {ps : Array (Int × Int)} {len : Nat} {x : Int32} {off : Int} {tgt : Nat} (hd : decode M.2.1 pc = .ok (.lookupswitch dflt ps, len)) (hp : (ps.toList.zip (ps.toList.drop 1)).all (fun (a, next) => a.1 < next.1) = true) (ho : Op.lookupswitch.offset ps.toList dflt x.toInt = off) (ht : (pc : Int) + off = (tgt : Int)) (k : J g M d tb tgt ls st h sz kc ks Q) : J g M d tb pc ls (.int x :: st) h sz kc ks Q := by
  intro p e s m args below meth c R mc ms QF C E H locs cells slots la hH hS hl h1 h2
  exact lv_lookup C.1 C.2.1 hd hp ho ht (k p e s m args below meth c R mc ms QF C E H locs cells slots la hH hS hl h1 h2)
theorem J_tableOut {dflt lo hi : Int} {offs : Array Int} {len : Nat} {x : Int32} {tgt : Nat} (hd : decode M.2.1 pc = .ok (.tableswitch dflt lo hi offs, len)) (hx : x.toInt < lo ∨ hi < x.toInt) (ht : (pc : Int) + dflt = (tgt : Int)) (k : J g M d tb tgt ls st h sz kc ks Q) : J g M d tb pc ls (.int x :: st) h sz kc ks Q := by
  intro p e s m args below meth c R mc ms QF C E H locs cells slots la hH hS hl h1 h2
  exact lv_tableOut C.1 C.2.1 hd hx ht (k p e s m args below meth c R mc ms QF C E H locs cells slots la hH hS hl h1 h2)
theorem J_tableIn {dflt lo hi : Int} {offs : Array Int} {len : Nat} {x : Int32} {off : Int} {tgt : Nat} (hd : decode M.2.1 pc = .ok (.tableswitch dflt lo hi offs, len)) (hx1 : ¬ x.toInt < lo) (hx2 : ¬ hi < x.toInt) (ho : offs[(x.toInt - lo).toNat]? = some off) (ht : (pc : Int) + off = (tgt : Int)) (k : J g M d tb tgt ls st h sz kc ks Q) : J g M d tb pc ls (.int x :: st) h sz kc ks Q := by
  intro p e s m args below meth c R mc ms QF C E H locs cells slots la hH hS hl h1 h2
  exact lv_tableIn C.1 C.2.1 hd hx1 hx2 ho ht (k p e s m args below meth c R mc ms QF C E H locs cells slots la hH hS hl h1 h2)
theorem J_ldc {idx : Nat} {v : Int32} (hd : decode M.2.1 pc = .ok (.ldc idx, 2)) (hc : Cond.constant M.1.cls idx v ∈ lw_tbl) (k : J g M d tb (pc + 2) ls (.int v :: st) h sz kc ks Q) : J g M d tb pc ls st h sz kc ks Q := by
  intro p e s m args below meth c R mc ms QF C E H locs cells slots la hH hS hl h1 h2
  exact lv_ldc C.1 C.2.1 C.2.2.2.2.1 (C.2.2.2.2.2.2.1.2.1.good hc rfl) hd (k p e s m args below meth c R mc ms QF C E H locs cells slots la hH hS hl h1 h2)
theorem J_ldcw {idx : Nat} {v : Int32} (hd : decode M.2.1 pc = .ok (.ldc_w idx, 3)) (hc : Cond.constant M.1.cls idx v ∈ lw_tbl) (k : J g M d tb (pc + 3) ls (.int v :: st) h sz kc ks Q) : J g M d tb pc ls st h sz kc ks Q := by
  intro p e s m args below meth c R mc ms QF C E H locs cells slots la hH hS hl h1 h2
  exact lv_ldcw C.1 C.2.1 C.2.2.2.2.1 (C.2.2.2.2.2.2.1.2.1.good hc rfl) hd (k p e s m args below meth c R mc ms QF C E H locs cells slots la hH hS hl h1 h2)
theorem J_ldc2 {idx : Nat} {v : Int64} (hd : decode M.2.1 pc = .ok (.ldc2_w idx, 3)) (hc : Cond.constantLong M.1.cls idx v ∈ lw_tbl) (k : J g M d tb (pc + 3) ls (.long v :: st) h sz kc ks Q) : J g M d tb pc ls st h sz kc ks Q := by
  intro p e s m args below meth c R mc ms QF C E H locs cells slots la hH hS hl h1 h2
  exact lv_ldc2 C.1 C.2.1 C.2.2.2.2.1 (C.2.2.2.2.2.2.1.2.1.good hc rfl) hd (k p e s m args below meth c R mc ms QF C E H locs cells slots la hH hS hl h1 h2)
theorem J_iret {x : Int32} {ty : FieldType} (hM : isLaw M = false) (hr : M.2.2.2 = some ty) (hn : narrow ty (.int x) = .int x) (hd : decode M.2.1 pc = .ok (.ireturn, 1)) (hq : Q (.inl (some (.int x))) h sz) : J g M d tb pc ls [.int x] h sz kc ks Q := by
  intro p e s m args below meth c R mc ms QF C E H locs cells slots la hH hS hl h1 h2
  rcases E with ⟨-, E⟩ | ⟨E, -⟩
  · subst E
    refine vx_ret (W.widen (k := mc) (n := ms) (by omega) (by omega) ?_)
    exact W.zret C.1 C.2.1 (C.2.2.2.1.trans hr) hn (fun t ht hW => ⟨⟨some (.int x), h, sz, rfl, hq, by rw [ht]; exact hH⟩, hS.F ht⟩) hS.2.2 hd C.2.2.2.2.2.1
  · rw [hM] at E; cases E
theorem J_lret {x : Int64} (hM : isLaw M = false) (hr : M.2.2.2 = some .long) (hd : decode M.2.1 pc = .ok (.lreturn, 1)) (hq : Q (.inl (some (.long x))) h sz) : J g M d tb pc ls [.long x] h sz kc ks Q := by
  intro p e s m args below meth c R mc ms QF C E H locs cells slots la hH hS hl h1 h2
  rcases E with ⟨-, E⟩ | ⟨E, -⟩
  · subst E
    refine vx_ret (W.widen (k := mc) (n := ms) (by omega) (by omega) ?_)
    exact W.lret C.1 C.2.1 (C.2.2.2.1.trans hr) (fun t ht hW => ⟨⟨some (.long x), h, sz, rfl, hq, by rw [ht]; exact hH⟩, hS.F ht⟩) hS.2.2 hd C.2.2.2.2.2.1
  · rw [hM] at E; cases E
theorem J_ret (hM : isLaw M = false) (hr : M.2.2.2 = none) (hd : decode M.2.1 pc = .ok (.return_, 1)) (hq : Q (.inl none) h sz) : J g M d tb pc ls [] h sz kc ks Q := by
  intro p e s m args below meth c R mc ms QF C E H locs cells slots la hH hS hl h1 h2
  rcases E with ⟨-, E⟩ | ⟨E, -⟩
  · subst E
    refine vx_ret (W.widen (k := mc) (n := ms) (by omega) (by omega) ?_)
    exact W.vret C.1 C.2.1 (C.2.2.2.1.trans hr) (fun t ht hW => ⟨⟨none, h, sz, rfl, hq, by rw [ht]; exact hH⟩, hS.F ht⟩) hS.2.2 hd C.2.2.2.2.2.1
  · rw [hM] at E; cases E
theorem J_mono {Q' : Po} {kc' ks' : Nat} (hc : kc' ≤ kc) (hs : ks' ≤ ks) (k : J g M d tb pc ls st h sz kc' ks' Q) : J g M d tb pc ls st h sz kc ks Q := by
  intro p e s m args below meth c R mc ms QF C E H locs cells slots la hH hS hl h1 h2
  exact k p e s m args below meth c R mc ms QF C E H locs cells slots la hH hS hl (by omega) (by omega)
/-- fewer locals are known -/
theorem J_forget (hf : ∀ (i : Nat) (v : Value), ls'[i]? = some (some v) → ls[i]? = some (some v)) (k : J g M d tb pc ls' st h sz kc ks Q) : J g M d tb pc ls st h sz kc ks Q := by
  intro p e s m args below meth c R mc ms QF C E H locs cells slots la hH hS hl h1 h2
  exact k p e s m args below meth c R mc ms QF C E H locs cells slots la hH hS ⟨hl.1, hl.2.1, fun i v hv => hl.2.2 i v (hf i v hv)⟩ h1 h2
end JR
