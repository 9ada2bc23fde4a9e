/-! ===== the law: its script, its end, a step of it ===== -/
abbrev mLW : Mt := (yL_law_, cL_law_, 8, some .boolean)
section JLW
variable {g : Gp} {M : Mt} {d pc q : Nat} {tb : List ExceptionTableEntry} {ls : List (Option Value)} {st : List Value} {h : AH} {sz kc ks : Nat} {Q : Po} {x : Int32}
theorem ab_scr (g : Gp) : ab g (SB + 110) = gV g 10 := by
  unfold ab
  rw [if_neg (by omega), if_neg (by omega)]
  congr 1
theorem J_sal {w : Int32} (hd : decode M.2.1 pc = .ok (.arraylength, 1)) (hw : nI (gV g 11) = w) (kk : J g M d tb (pc + 1) ls (.int w :: st) h sz kc ks Q) : J g M d tb pc ls (.ref (SB + 110) :: st) h sz kc ks Q := by
  intro p e s m args below meth c R mc ms QF C E H locs cells slots la hH hS hl h1 h2
  have hk := kk p e s m args below meth c R mc ms QF C E H locs cells slots la hH hS hl h1 h2
  subst hw
  obtain ⟨⟨q1, q2⟩, -⟩ := C.2.2.2.2.2.2.1.2.2.2.2.2.2.2.2
  rw [List.map_cons, cv_ref, ab_scr]
  obtain ⟨scr, e1, e2⟩ := id q2
  exact va_slen C.1 C.2.1 q2 (Array.getElem?_eq_some_iff.mp e1).1 (Nat.not_le.mpr q1) hS hd hk
theorem J_sil (hd : decode M.2.1 pc = .ok (.iaload, 1)) (hx : x = nI q) (hq : q < gV g 11) (hq3 : gV g 11 < 2 ^ 31) (kk : J g M d tb (pc + 1) ls (.int (xsG g q) :: st) h sz kc ks Q) : J g M d tb pc ls (.int x :: .ref (SB + 110) :: st) h sz kc ks Q := by
  intro p e s m args below meth c R mc ms QF C E H locs cells slots la hH hS hl h1 h2
  have hk := kk p e s m args below meth c R mc ms QF C E H locs cells slots la hH hS hl h1 h2
  subst hx
  obtain ⟨⟨q1, q2⟩, -⟩ := C.2.2.2.2.2.2.1.2.2.2.2.2.2.2.2
  rw [List.map_cons, List.map_cons, cv_ref, cv_int, ab_scr]
  obtain ⟨scr, e1, e2⟩ := id q2
  refine va_sld C.1 C.2.1 q2 (Array.getElem?_eq_some_iff.mp e1).1 (Nat.not_le.mpr q1) hS (vp_in_nI hq hq3) hd ?_
  rw [nI_clamp (by omega)]
  exact hk
/-- the law's end -/
theorem J_lwret (hM : isLaw M = true) (hr : M.2.2.2 = some .boolean) (hd : decode M.2.1 pc = .ok (.ireturn, 1)) (hq : Q (.inl (some (.int 1))) h sz) : J g M d tb pc ls [.int 1] h sz kc ks Q := by
  intro p e s m args below meth c R mc ms QF C E H locs cells slots la hH hS hl h1 h2
  rcases E with ⟨E, -⟩ | ⟨-, rfl, -, rfl, rfl, hgB⟩
  · rw [hM] at E; cases E
  obtain ⟨c1, c2, c3, c4, c5, c6, c7, c8, c9, c10, c11, c12, c13⟩ := C
  refine va_forget (fun q hq => by rw [← hgB]; exact hS.2.2 q hq) (W.widen (k := 601024) (n := 7293034) (by omega) (by omega) ?_)
  intro T hT X
  obtain ⟨fs, hret, hrun, hended, hW, hframe⟩ := X.leave (v := some (.int 1)) (hlocks := c6) (fun h => by rw [c4, hr] at h; cases h)
  have hmeth' : T.vm.method? m = some meth := X.method'
  have hr' : meth.sig.returnType = some .boolean := c4.trans hr
  refine ⟨T.setFrames fs, ?_, .returned (some (.int 1)), hrun, hended, rfl, ⟨_, rfl⟩, hW, hframe⟩
  show Steps p.tables e below (T.setTop (F0 m pc la [.int 1])) _
  jvm_step X.here [X.here.top, c1, c2, hd, hmeth', hr', narrow_b1]
  (try refine ⟨rfl, ?_⟩); (try refine ⟨rfl, ?_⟩)
  first | (intro acts; rw [hret _ acts rfl rfl rfl]) | rw [hret _ _ rfl rfl rfl]
  exact Steps.refl _
end JLW
/-- class, then model, answer alike, and what stands goes on standing -/
def SP (g : Gp) (INV : Sx → Prop) (N N' : Mt) (as : List Value) (S : Sx) : Prop := ∃ d1 d2 P, d1 + 1 ≤ 60 ∧ d2 + 1 ≤ 60 ∧ RI g N d1 (.ref 0 :: as) S P ∧ ∀ x X, P x X → RI g N' d2 (.ref 59 :: as) X (fun y Y => x = y ∧ INV Y)
/-- the same where the law's own method calls the class; w: how the model's answer is held against the law's long -/
def SW (g : Gp) (INV : Sx → Prop) (N : Mt) (hh : List (Nat × Nat × Nat × Nat)) (N' : Mt) (w : Int32 → Int64) (as : List Value) (S : Sx) : Prop := ∃ d2 P, d2 + 1 ≤ 60 ∧ WR g N hh (.ref 0 :: as ++ [.ref 562]) S P ∧ ∀ k X, P k X → RI g N' d2 (.ref 59 :: as) X (fun y Y => sf Y 59 0 = k ∧ (k = 0 → sl Y 0 = w y) ∧ INV Y)
def SV8 (g : Gp) (INV : Sx → Prop) (N : Mt) (hh : List (Nat × Nat × Nat × Nat)) (N' : Mt) (as : List Value) (S : Sx) : Prop := ∃ d2 P, d2 + 1 ≤ 60 ∧ WR g N hh (.ref 0 :: as ++ [.ref 562]) S P ∧ ∀ k X, P k X → RJ g N' d2 (.ref 59 :: as) X (fun y Y => sf Y 59 0 = k ∧ (k = 0 → sl Y 0 = y) ∧ INV Y)
abbrev wI (x : Int32) : Int64 := x.toInt64
abbrev wZ (x : Int32) : Int64 := if x = 0 then 0 else 1
theorem lcz {x y : Int64} (h : x = y) : lg_cmp x y = 0 := by
  subst h
  unfold lg_cmp
  simp
theorem pre5 {a b c d e : Option Value} (rest : List (Option Value)) (i : Nat) (v : Value) (h : ([a, b, c, d, e] : List (Option Value))[i]? = some (some v)) : (a :: b :: c :: d :: e :: rest)[i]? = some (some v) := by
  match i, h with
  | 0, h => exact h
  | 1, h => exact h
  | 2, h => exact h
  | 3, h => exact h
  | 4, h => exact h
  | n + 5, h => simp at h
