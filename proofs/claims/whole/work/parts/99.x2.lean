/-! ===== contracts as answers and what is left ===== -/
/-- behind the model: nothing thrown, the law's long as it was -/
def eqM (S X : Sx) : Prop := eqI S X ∧ sf X 59 0 = 0 ∧ sl X = sl S
section RIX
variable {g : Gp} {N : Mt} {d : Nat} {as : List Value} {S S' : Sx} {v : Int32} {v8 : Int64} {P P' : Int32 → Sx → Prop} {P8 P8' : Int64 → Sx → Prop}
theorem NT_m {kc ks sz : Nat} {h : AH} {Q Q' : Po} (k : NT g N d kc ks as h sz Q) (hq : ∀ o h sz, Q o h sz → Q' o h sz) : NT g N d kc ks as h sz Q' := by
  intro p e ha hc hk s m args below hf happ hP hK
  obtain ⟨n, o, h1, h2, h3, ⟨⟨⟨v0, h', sz', e1, e2, hH⟩, hF⟩, h5⟩⟩ := k p e ha hc hk s m args below hf happ hP hK
  exact ⟨n, o, h1, h2, h3, ⟨⟨v0, h', sz', e1, hq _ _ _ e2, hH⟩, hF⟩, h5⟩
theorem RI_m (h : RI g N d as S P) (hp : ∀ x X, P x X → P' x X) : RI g N d as S P' := fun sz => NT_m (h sz) (fun o h' sz' ⟨x, X, e1, e2, e3, e4⟩ => ⟨x, X, e1, e2, hp x X e3, e4⟩)
theorem RJ_m (h : RJ g N d as S P8) (hp : ∀ x X, P8 x X → P8' x X) : RJ g N d as S P8' := fun sz => NT_m (h sz) (fun o h' sz' ⟨x, X, e1, e2, e3, e4⟩ => ⟨x, X, e1, e2, hp x X e3, e4⟩)
theorem RI_RT (h : RT g N d as S (some (.int v)) S') : RI g N d as S (fun x X => x = v ∧ X = S') := fun sz => NT_m (h sz) (fun o h' sz' ⟨e1, e2, e3⟩ => ⟨v, S', e1, e2, ⟨rfl, rfl⟩, e3⟩)
theorem RI_RW (h : RW g N d as S (some (.int v)) S') : RI g N d as S (fun x X => x = v ∧ ∃ T, X = w1 S' T) := fun sz => NT_m (h S sz) (fun o h' sz' ⟨e1, ⟨T, e2⟩, e3⟩ => ⟨v, w1 S' T, e1, e2, ⟨rfl, T, rfl⟩, e3⟩)
theorem RI_RV (h : RV g N d as S (some (.int v)) S') : RI g N d as S (fun x X => x = v ∧ ∃ T, X = w2 S' T) := fun sz => NT_m (h sz) (fun o h' sz' ⟨e1, ⟨T, e2⟩, e3⟩ => ⟨v, w2 S' T, e1, e2, ⟨rfl, T, rfl⟩, e3⟩)
theorem RI_RE (h : RE g N d as S (some (.int v)) S') : RI g N d as S (fun x X => x = v ∧ off3 S' X) := fun sz => NT_m (h sz) (fun o h' sz' ⟨e1, ⟨X, e2, e4⟩, e3⟩ => ⟨v, X, e1, e2, ⟨rfl, e4⟩, e3⟩)
theorem RJ_RT (h : RT g N d as S (some (.long v8)) S') : RJ g N d as S (fun x X => x = v8 ∧ X = S') := fun sz => NT_m (h sz) (fun o h' sz' ⟨e1, e2, e3⟩ => ⟨v8, S', e1, e2, ⟨rfl, rfl⟩, e3⟩)
theorem RJ_RW (h : RW g N d as S (some (.long v8)) S') : RJ g N d as S (fun x X => x = v8 ∧ ∃ T, X = w1 S' T) := fun sz => NT_m (h S sz) (fun o h' sz' ⟨e1, ⟨T, e2⟩, e3⟩ => ⟨v8, w1 S' T, e1, e2, ⟨rfl, T, rfl⟩, e3⟩)
-- the class's queries
theorem qT (h : RT g N d as S (some (.int v)) S) : RI g N d as S (fun x X => x = v ∧ eqI S X) := RI_m (RI_RT h) (fun x X ⟨e1, e2⟩ => ⟨e1, by rw [e2]; exact eqI_r S⟩)
theorem qW (h : RW g N d as S (some (.int v)) S) : RI g N d as S (fun x X => x = v ∧ eqI S X) := RI_m (RI_RW h) (fun x X ⟨e1, T, e2⟩ => ⟨e1, by rw [e2]; exact eqI_r S⟩)
theorem qE (h : RE g N d as S (some (.int v)) S) : RI g N d as S (fun x X => x = v ∧ eqI S X) := RI_m (RI_RE h) (fun x X ⟨e1, e2⟩ => ⟨e1, eqI_off e2⟩)
theorem qF (h : RI g N d as S (fun x X => x = v ∧ FRC prF prA S X)) : RI g N d as S (fun x X => x = v ∧ eqI S X) := RI_m h (fun x X ⟨e1, e2⟩ => ⟨e1, eqI_FRC e2⟩)
theorem qT8 (h : RT g N d as S (some (.long v8)) S) : RJ g N d as S (fun x X => x = v8 ∧ eqI S X) := RJ_m (RJ_RT h) (fun x X ⟨e1, e2⟩ => ⟨e1, by rw [e2]; exact eqI_r S⟩)
theorem qW8 (h : RW g N d as S (some (.long v8)) S) : RJ g N d as S (fun x X => x = v8 ∧ eqI S X) := RJ_m (RJ_RW h) (fun x X ⟨e1, T, e2⟩ => ⟨e1, by rw [e2]; exact eqI_r S⟩)
-- the model's
theorem s00 (S : Sx) : sf (S0 S) 59 0 = 0 := sF_s
theorem s014 (S : Sx) : sf (S0 S) 0 14 = sf S 0 14 := sf_o (by decide)
theorem s015 (S : Sx) : sf (S0 S) 0 15 = sf S 0 15 := sf_o (by decide)
theorem er0 (S : Sx) (w : Int32) (k : Nat) : sf (er S w k) 59 0 = w := (show sf (sF (sF S 59 0 0) 59 0 w) 59 0 = w from sF_s)
theorem eqM_0 (S : Sx) : eqM S (S0 S) := ⟨eqI_0 S, sF_s, rfl⟩
theorem eqM_w1 {T : Sx} : eqM S (w1 (S0 S) T) := ⟨eqI_0 S, s00 S, rfl⟩
theorem eqM_w2 {T : Sx} : eqM S (w2 (S0 S) T) := ⟨⟨⟨fun a k q => sf_o (xF_n q), fun _ _ _ => rfl, fun a q => if_neg (fun e => by subst e; exact absurd q (by decide))⟩, s014 S, s015 S, rfl⟩, s00 S, rfl⟩
theorem eqM_off {X : Sx} (h : off3 (S0 S) X) : eqM S X := ⟨eqI_t (eqI_0 S) (eqI_off h), (h.1 59 0 rfl).trans sF_s, h.2.2.2⟩
theorem mT (h : RT g N d as S (some (.int v)) (S0 S)) : RI g N d as S (fun x X => x = v ∧ eqM S X) := RI_m (RI_RT h) (fun x X ⟨e1, e2⟩ => ⟨e1, by rw [e2]; exact eqM_0 S⟩)
theorem mW (h : RW g N d as S (some (.int v)) (S0 S)) : RI g N d as S (fun x X => x = v ∧ eqM S X) := RI_m (RI_RW h) (fun x X ⟨e1, T, e2⟩ => ⟨e1, by rw [e2]; exact eqM_w1⟩)
theorem mV (h : RV g N d as S (some (.int v)) (S0 S)) : RI g N d as S (fun x X => x = v ∧ eqM S X) := RI_m (RI_RV h) (fun x X ⟨e1, T, e2⟩ => ⟨e1, by rw [e2]; exact eqM_w2⟩)
theorem mE (h : RE g N d as S (some (.int v)) (S0 S)) : RI g N d as S (fun x X => x = v ∧ eqM S X) := RI_m (RI_RE h) (fun x X ⟨e1, e2⟩ => ⟨e1, eqM_off e2⟩)
theorem mT8 (h : RT g N d as S (some (.long v8)) (S0 S)) : RJ g N d as S (fun x X => x = v8 ∧ eqM S X) := RJ_m (RJ_RT h) (fun x X ⟨e1, e2⟩ => ⟨e1, by rw [e2]; exact eqM_0 S⟩)
theorem mW8 (h : RW g N d as S (some (.long v8)) (S0 S)) : RJ g N d as S (fun x X => x = v8 ∧ eqM S X) := RJ_m (RJ_RW h) (fun x X ⟨e1, T, e2⟩ => ⟨e1, by rw [e2]; exact eqM_w1⟩)
end RIX
section STP
variable {g : Gp} {N N' : Mt} {hh : List (Nat × Nat × Nat × Nat)} {d1 d2 : Nat} {as : List Value} {S S' : Sx} {w : Int32 → Int64} {v : Int32} {v8 : Int64} {p : WT}
/-- a query without refusals -/
theorem sp_q (hB : IB S p) (h1 : d1 + 1 ≤ 60) (h2 : d2 + 1 ≤ 60) (hC : RI g N d1 (.ref 0 :: as) S (fun x X => x = v ∧ eqI S X)) (hM : ∀ Y, eqI S Y → IB Y p → RI g N' d2 (.ref 59 :: as) Y (fun y Z => y = v ∧ eqM Y Z)) : SP g INV N N' as S := by
  refine ⟨d1, d2, _, h1, h2, hC, fun x X hP => ?_⟩
  obtain ⟨rfl, hX⟩ := hP
  have hBX := IB_eqI hX hB
  exact RI_m (hM X hX hBX) (fun y Z ⟨e1, e2⟩ => ⟨e1.symm, p, IB_eqI e2.1 hBX⟩)
/-- a query that is answered -/
theorem sw_q (hB : IB S p) (h2 : d2 + 1 ≤ 60) (hC : WR g N hh (.ref 0 :: as ++ [.ref 562]) S (fun k Y => k = 0 ∧ ∃ x X, (x = v ∧ eqI S X) ∧ Y = sL X 0 (w x))) (hM : ∀ Y, eqI S Y → IB Y p → RI g N' d2 (.ref 59 :: as) Y (fun y Z => y = v ∧ eqM Y Z)) : SW g INV N hh N' w as S := by
  refine ⟨d2, _, h2, hC, fun k Y hP => ?_⟩
  obtain ⟨rfl, x, X, ⟨rfl, hX⟩, rfl⟩ := hP
  have hBX : IB (sL X 0 (w x)) p := IB_eqI (show eqI S (sL X 0 (w x)) from hX) hB
  refine RI_m (hM _ hX hBX) (fun y Z ⟨e1, e2⟩ => ⟨e2.2.1, fun _ => ?_, p, IB_eqI e2.1 hBX⟩)
  rw [e2.2.2, e1]
  show vp_updL (sl X) 0 (w x) 0 = w x
  simp [vp_updL]
theorem sv_q (hB : IB S p) (h2 : d2 + 1 ≤ 60) (hC : WR g N hh (.ref 0 :: as ++ [.ref 562]) S (fun k Y => k = 0 ∧ ∃ x X, (x = v8 ∧ eqI S X) ∧ Y = sL X 0 x)) (hM : ∀ Y, eqI S Y → IB Y p → RJ g N' d2 (.ref 59 :: as) Y (fun y Z => y = v8 ∧ eqM Y Z)) : SV8 g INV N hh N' as S := by
  refine ⟨d2, _, h2, hC, fun k Y hP => ?_⟩
  obtain ⟨rfl, x, X, ⟨rfl, hX⟩, rfl⟩ := hP
  have hBX : IB (sL X 0 x) p := IB_eqI (show eqI S (sL X 0 x) from hX) hB
  refine RJ_m (hM _ hX hBX) (fun y Z ⟨e1, e2⟩ => ⟨e2.2.1, fun _ => ?_, p, IB_eqI e2.1 hBX⟩)
  rw [e2.2.2, e1]
  show vp_updL (sl X) 0 x 0 = x
  simp [vp_updL]
/-- a refusal -/
theorem sw_e {kk : Int32} {k : Nat} (hB : IB S p) (hk : k < 2) (hkk : kk ≠ 0) (hC : WR g N hh (.ref 0 :: as ++ [.ref 562]) S (fun k' Y => k' = kk ∧ Y = ce S k)) (hM : RT g N' d2 (.ref 59 :: as) (ce S k) (some (.int v)) (er (ce S k) kk k)) (h2 : d2 + 1 ≤ 60) : SW g INV N hh N' w as S := by
  refine ⟨d2, _, h2, hC, fun k' Y hP => ?_⟩
  obtain ⟨rfl, rfl⟩ := hP
  refine RI_m (RI_RT hM) (fun y Z ⟨e1, e2⟩ => ?_)
  subst e2
  exact ⟨er0 _ _ _, fun z => absurd z hkk, p, IB_er hk hB⟩
theorem sv_e {kk : Int32} {k : Nat} (hB : IB S p) (hk : k < 2) (hkk : kk ≠ 0) (hC : WR g N hh (.ref 0 :: as ++ [.ref 562]) S (fun k' Y => k' = kk ∧ Y = ce S k)) (hM : RT g N' d2 (.ref 59 :: as) (ce S k) (some (.long v8)) (er (ce S k) kk k)) (h2 : d2 + 1 ≤ 60) : SV8 g INV N hh N' as S := by
  refine ⟨d2, _, h2, hC, fun k' Y hP => ?_⟩
  obtain ⟨rfl, rfl⟩ := hP
  refine RJ_m (RJ_RT hM) (fun y Z ⟨e1, e2⟩ => ?_)
  subst e2
  exact ⟨er0 _ _ _, fun z => absurd z hkk, p, IB_er hk hB⟩
/-- the house as the model tells it, behind a refusal of the class's -/
theorem MH_ce {k : Nat} (hB : IB S p) : MH (ce S k) (dNs (pd p)) (dNr (pd p)) (dNp (pd p)) (dOw (pd p)) := HG_MH hB.2.2.1.1 hB.1.2.2.2.2.2.2.1
end STP
