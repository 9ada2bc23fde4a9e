/-! ===== abstract heaps, and the judgement J over the machine's W ===== -/
abbrev AE : Type := (Nat × vp_A) ⊕ (Nat × List Value)
abbrev AH : Type := Nat → Option AE
/-- launch; class numbers and slots; array classes by kind; base; the strings' places -/
abbrev Gp : Type := Launch × va_G × (Nat → ClassId) × Nat × (Nat → Nat) × (Nat → Nat)
abbrev gl (g : Gp) : Launch := g.1
abbrev gD (g : Gp) : va_G := g.2.1
abbrev gA (g : Gp) : Nat → ClassId := g.2.2.1
abbrev gB (g : Gp) : Nat := g.2.2.2.1
abbrev gK (g : Gp) : Nat → Nat := g.2.2.2.2.1
abbrev gV (g : Gp) : Nat → Nat := g.2.2.2.2.2
def SB : Nat := 1000000
def ab (g : Gp) (a : Nat) : Nat := if a < SB then gB g + a else if a < SB + 100 then gK g (a - SB) else gV g (a - (SB + 100))
theorem ab_lo {g : Gp} {a : Nat} (h : a < SB) : ab g a = gB g + a := if_pos h
def cv (g : Gp) (v : Value) : Value := match v with
  | .ref a => .ref (ab g a)
  | v => v
theorem cv_int (g : Gp) (x : Int32) : cv g (.int x) = .int x := rfl
theorem cv_long (g : Gp) (x : Int64) : cv g (.long x) = .long x := rfl
theorem cv_ref (g : Gp) (a : Nat) : cv g (.ref a) = .ref (ab g a) := rfl
theorem cv_cat (g : Gp) (v : Value) : (cv g v).category = v.category := by cases v <;> rfl
abbrev cls : List vw_C := [(RX0, TX0, 4), (RX1, TX1, 11), (RX2, TX2, 3), (RX3, TX3, 4), (RX4, TX4, 8), (RX5, TX5, 4), (RX6, TX6, 2), (RX7, TX7, 3), (RX8, TX8, 7), (RX9, TX9, 4), (RX10, TX10, 16), (RX11, TX11, 49)]
def tyG (g : Gp) : List (ClassId × FieldType) := [(gA g 0, .int), (gA g 1, .byte), (gA g 2, .long), (gA g 3, .object RX5), (gA g 4, .array .int)]
abbrev vp_B : Type := (Nat → Int32) ⊕ (Nat → Int64) ⊕ (Nat → UInt32) ⊕ (Nat → UInt64) ⊕ (Nat → Option Nat)
def cc1 (g : Gp) (x : vp_B) : vp_B := match x with
  | .inr (.inr (.inr (.inr f))) => .inr (.inr (.inr (.inr (fun i => (f i).map (ab g)))))
  | x => x
def cE (g : Gp) (e : AE) : va_E := match e with
  | .inl (k, n, x) => .inl (gA g k, n, cc1 g x)
  | .inr (ci, fs) => .inr (ci, fs.map (cv g))
/-- the heap H holds the abstract heap h, and has base + sz cells -/
def Hr (g : Gp) (h : AH) (sz : Nat) (H : Heap) : Prop := H.size = gB g + sz ∧ ∀ (a : Nat) (e : AE), h a = some e → a < SB ∧ va_at (gD g) cls (gB g + a, cE g e) H
def hup (h : AH) (a : Nat) (e : AE) : AH := fun q => if q = a then some e else h q
theorem hup_s {h : AH} {a : Nat} {e : AE} : hup h a e a = some e := if_pos rfl
theorem hup_n {h : AH} {a b : Nat} {e : AE} (n : b ≠ a) : hup h a e b = h b := if_neg n
theorem Hr.put {g : Gp} {h : AH} {sz a : Nat} {H H1 : Heap} {e : AE} (hr : Hr g h sz H) (ha : a < SB) (hs : H1.size = H.size) (hv : va_at (gD g) cls (gB g + a, cE g e) H1) (ho : ∀ q : Nat, q ≠ gB g + a → H1[q]? = H[q]?) : Hr g (hup h a e) sz H1 := by
  refine ⟨hs.trans hr.1, fun b x hb => ?_⟩
  by_cases e1 : b = a
  · subst e1
    rw [hup_s] at hb
    cases hb
    exact ⟨ha, hv⟩
  · rw [hup_n e1] at hb
    obtain ⟨q1, q2⟩ := hr.2 b x hb
    exact ⟨q1, q2.kept (ho _ (by show gB g + b ≠ gB g + a; omega))⟩
abbrev Ag (g : Gp) : Nat → Prop := fun q => gB g ≤ q
def isNest (w : Cond) : Bool := match w with
  | .fieldLinkNest .. => true
  | .methodLinkNest .. => true
  | _ => false
def Wd (U : State) : Prop := ∀ w ∈ lw_tbl, (goodWord w = true ∨ isNest w = true) → w.before #[] U = true
theorem good_any {w : Cond} (hw : goodWord w = true) {a a' : Array Value} {s U : State} (hW : s.WarmedH U.vm) (h : w.before a s = true) : w.before a' U = true := word_at hW (good_of_word hw) h
theorem Wd.warm {s U : State} (hW : s.WarmedH U.vm) (h : Wd s) : Wd U := by
  intro w hw hp
  rcases hp with hp | hp
  · exact good_any hp hW (h w hw (Or.inl hp))
  · have h1 := h w hw (Or.inr hp)
    cases w <;> first | exact va_Nw.warmF hW h1 | exact va_Nw.warmM hW h1 | exact absurd hp Bool.false_ne_true
theorem Wd.good {U : State} (h : Wd U) {w : Cond} (hw : w ∈ lw_tbl) (hg : goodWord w = true) {A : Array Value} : w.before A U = true := good_any hg (State.WarmedH.refl U) (h w hw (Or.inl hg))
theorem Wd.nest {U : State} (h : Wd U) {w : Cond} (hw : w ∈ lw_tbl) (hg : isNest w = true) : va_Nw w U := h w hw (Or.inr hg)
abbrev strN : List (String × Nat × String) := [("RelicHouse$House", 60, "sister relic pilgrim vow"), ("RelicHouse$Law", 50, "+-"), ("RelicHouse$Law", 59, "*/%"), ("RelicHouse$Law", 69, "("), ("RelicHouse$Law", 79, "worth days lapses tempted ill others sister day least most"), ("RelicHouse$Script", 54, "give back lapse cure die day again"), ("RelicHouse", 359, "no such sister, relic or pilgrim"), ("RelicHouse", 366, "an argument out of its bounds")]
def stB (t : String) : List Int32 := t.toList.map (fun c => Int32.ofNat c.toNat)
abbrev strL : List Nat := strN.map (fun q => (stB q.2.2).length)
abbrev strB : List (List Int32) := strN.map (fun q => stB q.2.2)
/-- the formatter of the JDK's bounds checks: null, or an object that lies at the tenth of the places -/
def Fm (g : Gp) (U : State) (H : Heap) : Prop := va_Z "jdk/internal/util/Preconditions" "SIOOBE_FORMATTER" "Ljava/util/function/BiFunction;" .null (Ag g) U H ∨ va_Z "jdk/internal/util/Preconditions" "SIOOBE_FORMATTER" "Ljava/util/function/BiFunction;" (.ref (gV g 9)) (Ag g) U H
theorem Fm.kept {g : Gp} {U : State} {H H1 : Heap} (h : Fm g U H) (hq : ∀ a : Nat, a < H.size → ¬ Ag g a → H1[a]? = H[a]?) : Fm g U H1 := by
  rcases h with h | h
  · exact Or.inl (h.kept hq)
  · exact Or.inr (h.kept hq)
theorem Fm.moved {g : Gp} {s U : State} {H : Heap} (hvm : s.vm.Alike U.vm) (h : Fm g s H) : Fm g U H := by
  rcases h with h | h
  · exact Or.inl (h.moved hvm)
  · exact Or.inr (h.moved hvm)
theorem Cao.moved {u U : State} (hvm : u.vm.Alike U.vm) (h : (Cond.arrayOver (.array .int)).before #[] u = true) : (Cond.arrayOver (.array .int)).before #[] U = true := by
  simp only [Cond.before, Cond.holds, Cond.value, beq_iff_eq] at h ⊢
  cases hc : u.vm.findClass (FieldType.array .int).toString with
  | none => simp [hc] at h
  | some comp =>
    simp only [hc, Option.bind_some, Option.bind_eq_some_iff, Option.map_eq_some_iff] at h
    obtain ⟨c, hi, k, hk, hb⟩ := h
    obtain ⟨k', hk', he⟩ := hvm.2.2 _ _ hk
    have f1 : U.vm.findClass (FieldType.array .int).toString = some comp := by rw [hvm.findClass]; exact hc
    have hi' : (U.vm.classes.findIdx? fun (x : Class) => match x.kind with | .array component _ => component == comp | _ => false) = some c := by
      have hbr : U.vm.bare = u.vm.bare := by first | exact hvm.bare_eq | exact hvm.bare_eq.symm
      have e0 := va_idx_bare U.vm comp
      rw [hbr, va_idx_bare u.vm comp] at e0
      exact e0.symm.trans hi
    have hkind : k'.kind = k.kind := by rw [he]
    have f2 : U.vm.findClass ("[" ++ (FieldType.array .int).toString) = u.vm.findClass ("[" ++ (FieldType.array .int).toString) := hvm.findClass ..
    rw [f1]
    simp only [Option.bind_some, Option.bind_eq_some_iff, Option.map_eq_some_iff]
    refine ⟨c, hi', k', hk', ?_⟩
    rw [hkind, f2]
    exact hb
/-- the script's numbers, as the last places hold them -/
def xsG (g : Gp) (k : Nat) : Int32 := Int32.ofNat (gV g (1000 + k))
/-- the script; two classes that aren't each other's; the rows of rows -/
def Sr2 (g : Gp) (U : State) (H : Heap) : Prop := (gV g 10 < gB g ∧ va_X (gV g 10) (gV g 11) (xsG g) U H) ∧ va_Nc "java/lang/IllegalArgumentException" "java/util/NoSuchElementException" U ∧ va_Nc "java/util/NoSuchElementException" "java/lang/IllegalArgumentException" U ∧ va_AO RX5 U ∧ (Cond.arrayOver (.array .int)).before #[] U = true
theorem Sr2.kept {g : Gp} {U : State} {H H1 : Heap} (h : Sr2 g U H) (hq : ∀ a : Nat, a < H.size → ¬ Ag g a → H1[a]? = H[a]?) : Sr2 g U H1 := by
  obtain ⟨⟨h1, h2⟩, h3⟩ := h
  refine ⟨⟨h1, h2.kept (hq _ ?_ (Nat.not_le.mpr h1))⟩, h3⟩
  obtain ⟨scr, e, -⟩ := h2
  exact (Array.getElem?_eq_some_iff.mp e).1
theorem Sr2.moved {g : Gp} {s U : State} {H : Heap} (hvm : s.vm.Alike U.vm) (h : Sr2 g s H) : Sr2 g U H := by
  obtain ⟨⟨h1, h2⟩, h3, h4, h5, h6⟩ := h
  exact ⟨⟨h1, h2.moved hvm⟩, h3.moved hvm, h4.moved hvm, h5.moved hvm, Cao.moved hvm h6⟩
/-- what never changes -/
def Sr (g : Gp) (U : State) (H : Heap) : Prop :=
  va_K (gD g) cls (tyG g) U ∧ Wd U ∧ vk_S 8 strL strB (gK g) (gV g) (Ag g) U H ∧ (∀ (i : Nat) (q : String × Nat × String), strN[i]? = some q → vk_R q.1 q.2.1 q.2.2 (gK g i) U) ∧
  vx_Zq Bundle.tN "UNASSIGNED_STACK" Bundle.steD (Ag g) U H ∧ vx_Zq Bundle.tN "SUPPRESSED_SENTINEL" Bundle.listD (Ag g) U H ∧ va_Z "java/lang/String" "COMPACT_STRINGS" "Z" (.int 1) (Ag g) U H ∧ Fm g U H ∧ Sr2 g U H
theorem Sr.kept {g : Gp} {U : State} {H H1 : Heap} (h : Sr g U H) (hq : ∀ a : Nat, a < H.size → ¬ Ag g a → H1[a]? = H[a]?) : Sr g U H1 := by
  obtain ⟨h1, h2, h3, h4, h5, h6, h7, h8, h9⟩ := h
  exact ⟨h1, h2, h3.kept hq, h4, h5.kept hq, h6.kept hq, h7.kept hq, h8.kept hq, h9.kept hq⟩
theorem Sr.warm {g : Gp} {s U : State} {H : Heap} (hW : s.WarmedH U.vm) (h : Sr g s H) : Sr g U H := by
  obtain ⟨h1, h2, h3, h4, h5, h6, h7, h8, h9⟩ := h
  exact ⟨h1.moved hW.alike, h2.warm hW, h3.moved hW.alike, fun i q hi => (h4 i q hi).warm hW, h5.moved hW.alike, h6.moved hW.alike, h7.moved hW.alike, h8.moved hW.alike, h9.moved hW.alike⟩
theorem Sr.same {g : Gp} {s U : State} {H : Heap} (hv : U.vm = s.vm) (h : Sr g s H) : Sr g U H := h.warm (by rw [hv]; exact State.WarmedH.refl s)
-- locals by their places
def klr (o : Option Value) : Option Value := match o with
  | some (.long _) => none
  | some (.double _) => none
  | o => o
def sto1 : List (Option Value) → Nat → Value → List (Option Value)
  | [], _, _ => []
  | _ :: t, 0, v => some v :: t
  | o :: t, 1, v => klr o :: sto1 t 0 v
  | o :: t, i + 2, v => o :: sto1 t (i + 1) v
def sto2 : List (Option Value) → Nat → Value → List (Option Value)
  | [], _, _ => []
  | _ :: t, 0, v => some v :: none :: t.drop 1
  | o :: t, 1, v => klr o :: sto2 t 0 v
  | o :: t, i + 2, v => o :: sto2 t (i + 1) v
theorem klr_some {o : Option Value} {w : Value} (h : klr o = some w) : o = some w ∧ w.category = 1 := by
  cases o with
  | none => cases h
  | some v => cases v <;> first | (cases h; done) | (cases h; exact ⟨rfl, rfl⟩)
theorem sto1_at : ∀ (ls : List (Option Value)) (i : Nat) (v : Value) (j : Nat) (w : Value), (sto1 ls i v)[j]? = some (some w) → (j = i ∧ w = v) ∨ (j ≠ i ∧ ls[j]? = some (some w) ∧ ¬ (j + 1 = i ∧ w.category = 2))
  | [], _, _, j, w, h => by simp [sto1] at h
  | o :: t, 0, v, j, w, h => by
    cases j with
    | zero => simp [sto1] at h; exact Or.inl ⟨rfl, h.symm⟩
    | succ j => exact Or.inr ⟨by omega, h, by omega⟩
  | o :: t, 1, v, j, w, h => by
    cases j with
    | zero =>
      have h : klr o = some w := by simpa [sto1] using h
      obtain ⟨h1, h2⟩ := klr_some h
      exact Or.inr ⟨by omega, by rw [h1]; rfl, by omega⟩
    | succ j =>
      rcases sto1_at t 0 v j w h with ⟨h1, h2⟩ | ⟨h1, h2, h3⟩
      · exact Or.inl ⟨by omega, h2⟩
      · exact Or.inr ⟨by omega, h2, by omega⟩
  | o :: t, i + 2, v, j, w, h => by
    cases j with
    | zero => exact Or.inr ⟨by omega, h, by omega⟩
    | succ j =>
      rcases sto1_at t (i + 1) v j w h with ⟨h1, h2⟩ | ⟨h1, h2, h3⟩
      · exact Or.inl ⟨by omega, h2⟩
      · exact Or.inr ⟨by omega, h2, by omega⟩
theorem sto2_at : ∀ (ls : List (Option Value)) (i : Nat) (v : Value) (j : Nat) (w : Value), (sto2 ls i v)[j]? = some (some w) → (j = i ∧ w = v) ∨ (j ≠ i ∧ j ≠ i + 1 ∧ ls[j]? = some (some w) ∧ ¬ (j + 1 = i ∧ w.category = 2))
  | [], _, _, j, w, h => by simp [sto2] at h
  | o :: t, 0, v, j, w, h => by
    match j with
    | 0 => simp [sto2] at h; exact Or.inl ⟨rfl, h.symm⟩
    | 1 => simp [sto2] at h
    | j + 2 =>
      refine Or.inr ⟨by omega, by omega, ?_, by omega⟩
      have h : (t.drop 1)[j]? = some (some w) := h
      rw [List.getElem?_drop] at h
      rw [Nat.add_comm 1 j] at h
      exact h
  | o :: t, 1, v, j, w, h => by
    cases j with
    | zero =>
      have h : klr o = some w := by simpa [sto2] using h
      obtain ⟨h1, h2⟩ := klr_some h
      exact Or.inr ⟨by omega, by omega, by rw [h1]; rfl, by omega⟩
    | succ j =>
      rcases sto2_at t 0 v j w h with ⟨h1, h2⟩ | ⟨h1, h2, h3, h4⟩
      · exact Or.inl ⟨by omega, h2⟩
      · exact Or.inr ⟨by omega, by omega, h3, by omega⟩
  | o :: t, i + 2, v, j, w, h => by
    cases j with
    | zero => exact Or.inr ⟨by omega, by omega, h, by omega⟩
    | succ j =>
      rcases sto2_at t (i + 1) v j w h with ⟨h1, h2⟩ | ⟨h1, h2, h3, h4⟩
      · exact Or.inl ⟨by omega, h2⟩
      · exact Or.inr ⟨by omega, by omega, h3, by omega⟩
def LR (g : Gp) (la : Array Slot) (n : Nat) (ls : List (Option Value)) : Prop := la.size = n ∧ lv_wf la ∧ ∀ (i : Nat) (v : Value), ls[i]? = some (some v) → la[i]? = some (.val (cv g v))
def lrl (g : Gp) (n : Nat) (ls : List (Option Value)) : List (Nat × Value) := (List.range n).filterMap (fun i => match ls[i]? with
  | some (some v) => some (i, cv g v)
  | _ => none)
theorem lrl_mem {g : Gp} {n : Nat} {ls : List (Option Value)} {i : Nat} {v : Value} (hi : i < n) (h : ls[i]? = some (some v)) : (i, cv g v) ∈ lrl g n ls := List.mem_filterMap.mpr ⟨i, List.mem_range.mpr hi, by rw [h]⟩
theorem LR.has {g : Gp} {la : Array Slot} {n : Nat} {ls : List (Option Value)} (h : LR g la n ls) : lv_has la n (lrl g n ls) := by
  refine ⟨h.1, h.2.1, fun q hq => ?_⟩
  obtain ⟨i, -, hi⟩ := List.mem_filterMap.mp hq
  split at hi
  · next v hv =>
    cases hi
    exact h.2.2 i v hv
  · cases hi
theorem LR.lt {g : Gp} {la : Array Slot} {n : Nat} {ls : List (Option Value)} (h : LR g la n ls) {i : Nat} {v : Value} (hi : ls[i]? = some (some v)) : i < n := by
  have := lv_lt (h.2.2 i v hi)
  rw [h.1] at this
  exact this
theorem LR.sto1 {g : Gp} {la la' : Array Slot} {n i : Nat} {ls : List (Option Value)} {v : Value} (h : LR g la n ls) (h' : lv_has la' n ((i, cv g v) :: (lrl g n ls).filter (fun q => !(q.1 == i) && !(q.1 + 1 == i && q.2.category == 2)))) : LR g la' n (sto1 ls i v) := by
  refine ⟨h'.1, h'.2.1, fun j w hj => ?_⟩
  rcases sto1_at _ _ _ _ _ hj with ⟨rfl, rfl⟩ | ⟨h1, h2, h3⟩
  · exact h'.2.2 _ List.mem_cons_self
  · refine h'.2.2 (j, cv g w) (List.mem_cons_of_mem _ (List.mem_filter.mpr ⟨lrl_mem (h.lt h2) h2, ?_⟩))
    show (!(j == i) && !(j + 1 == i && (cv g w).category == 2)) = true
    rw [cv_cat]
    simp only [Bool.and_eq_true, Bool.not_eq_true', beq_eq_false_iff_ne, ne_eq, Bool.and_eq_false_iff]
    refine ⟨h1, ?_⟩
    by_cases q : j + 1 = i
    · exact Or.inr fun q2 => h3 ⟨q, q2⟩
    · exact Or.inl q
theorem LR.sto2 {g : Gp} {la la' : Array Slot} {n i : Nat} {ls : List (Option Value)} {v : Value} (h : LR g la n ls) (h' : lv_has la' n ((i, cv g v) :: (lrl g n ls).filter (fun q => !(q.1 == i) && (!(q.1 == i + 1) && !(q.1 + 1 == i && q.2.category == 2))))) : LR g la' n (sto2 ls i v) := by
  refine ⟨h'.1, h'.2.1, fun j w hj => ?_⟩
  rcases sto2_at _ _ _ _ _ hj with ⟨rfl, rfl⟩ | ⟨h1, h0, h2, h3⟩
  · exact h'.2.2 _ List.mem_cons_self
  · refine h'.2.2 (j, cv g w) (List.mem_cons_of_mem _ (List.mem_filter.mpr ⟨lrl_mem (h.lt h2) h2, ?_⟩))
    show (!(j == i) && (!(j == i + 1) && !(j + 1 == i && (cv g w).category == 2))) = true
    rw [cv_cat]
    simp only [Bool.and_eq_true, Bool.not_eq_true', beq_eq_false_iff_ne, ne_eq, Bool.and_eq_false_iff]
    refine ⟨h1, h0, ?_⟩
    by_cases q : j + 1 = i
    · exact Or.inr fun q2 => h3 ⟨q, q2⟩
    · exact Or.inl q
