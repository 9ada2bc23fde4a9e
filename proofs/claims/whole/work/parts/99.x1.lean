/-! ===== what stands between two calls ===== -/
def RG (d : HD) (c f : Row) : Prop := RC d c f ∧ DT d f ∧ KA d f
theorem RC_cgf {d : HD} {c f f' : Row} (hv : HV d) (h : RC d c f) (hf : ∀ k, k < 45 → f' k = f k) : RC d c f' := by
  have h8 : dNs d ≤ 8 := hv.1
  have h10 : dNr d ≤ 10 := hv.2.1
  have h8' : dNp d ≤ 8 := hv.2.2.1
  obtain ⟨e1, e2, e3, e4, e5, e6, e7, e8, e9, e10⟩ := h
  refine ⟨e1.trans (hf 44 (by omega)).symm, e2.trans (msk_congr (fun s hs => by rw [hf (0 + s) (by omega)])), e3.trans (msk_congr (fun s hs => by rw [hf (16 + s) (by omega)])), e4.trans (msk_congr (fun s hs => by rw [hf (36 + s) (by omega)])), e5.trans (msk_congr (fun s hs => by rw [hf (26 + s) (by omega)])), fun r hr h => ?_, fun s hs => ?_, fun p hp => ?_, fun s hs => ?_, fun r hr => ?_⟩
  · rw [hf (16 + r) (by omega)] at h ⊢; exact e6 r hr h
  · rw [hf (8 + s) (by omega)]; exact e7 s hs
  · rw [hf (36 + p) (by omega)]; exact e8 p hp
  · rw [hf (0 + s) (by omega)]; exact e9 s hs
  · rw [hf (26 + r) (by omega)]; exact e10 r hr
theorem KA_cg {d : HD} {f f' : Row} (hv : HV d) (h : KA d f) (hf : ∀ k, k < 45 → f' k = f k) : KA d f' := by
  intro r hr hk
  have h8 : dNs d ≤ 8 := hv.1
  have h10 : dNr d ≤ 10 := hv.2.1
  have ho : dOw d r < dNs d := (hv.2.2.2.2.2.1 r hr).1
  rw [hf (16 + r) (by omega)] at hk
  rw [hf (0 + dOw d r) (by omega)]
  exact h r hr hk
theorem RG_cg {d : HD} {c c' f f' : Row} (hv : HV d) (h : RG d c f) (hc : ∀ k, k < 31 → c' k = c k) (hf : ∀ k, k < 45 → f' k = f k) : RG d c' f' :=
  ⟨RC_cgf hv (RC_cg hv.1 hv.2.1 hv.2.2.1 h.1 hc) hf, DT_cg hv hf h.2.1, KA_cg hv h.2.2 hf⟩
abbrev WT : Type := (Nat × Nat × Nat × Nat × Nat × Nat) × HD × Nat × (Nat → Nat × Nat) × List (Nat × Nat) × Nat × (Nat → Nat) × Nat × Nat × (Nat → Nat)
/-- pointers: the houses, the laws, the sights -/
def IP (S : Sx) (a a' b b' q q' : Nat) : Prop := HLa a' ∧ a ≠ a' ∧ sp S 0 10 = a' ∧ LLa b' ∧ b ≠ b' ∧ sp S 0 11 = b' ∧ SLa q ∧ SLa q' ∧ q ≠ q' ∧ sp S 0 9 = q ∧ sp S 0 12 = q'
def IM (S : Sx) (d : HD) (m : Nat) (wv : Nat → Nat × Nat) : Prop := HG S d ∧ LawM S m wv ∧ DT d (sa S 535) ∧ KA d (sa S 535)
def IL (S : Sx) (q : Nat) (d : HD) (l : List (Nat × Nat)) : Prop := SC S q l ∧ sf S 59 35 = nI l.length ∧ SL S 431 l ∧ SV (dNr d) l
def IT (S : Sx) (tp : Nat) (cc : Nat → Nat) : Prop := tp ≤ 600 ∧ sf S 1 1 = nI tp ∧ sf S 59 1 = nI tp ∧ ∀ k, k < tp → sa S 2 k = b8 (cc k) ∧ sa S 60 k = nI (cc k) ∧ cc k < 256
def IK (S : Sx) : Prop := sf S 1 6 = sf S 59 3 ∧ sf S 0 13 = sf S 59 37 ∧ sf S 0 14 = sa S 61 0 ∧ sf S 0 15 = sa S 61 1
def IW (S : Sx) (d : HD) (w : Nat) : Prop := sf S 32 0 = nI 16 ∧ sf S 32 1 = 31 ∧ w ≤ 16 ∧ sf S 32 3 = nI w ∧ sf S 59 36 = nI w ∧ ∀ k, k < w → RG d (fun i => sa S 33 (k * 31 + i)) (sa S (538 + k))
/-- an image: the works then, the row then, the rows of the works then -/
def I1 (S : Sx) (d : HD) (j w : Nat) : Prop := w ≤ 16 ∧ sf S (53 + 2 * j) 3 = nI w ∧ sa S (555 + j) 0 = nI w ∧ RG d (fun i => sa S 35 (j * 31 + i)) (fun i => sa S (555 + j) (1 + i)) ∧ ∀ k, k < w → RG d (fun i => sa S (53 + 2 * j + 1) (k * 31 + i)) (fun i => sa S (555 + j) (46 + 45 * k + i))
def II (S : Sx) (d : HD) (im : Nat) (ws : Nat → Nat) : Prop := sf S 34 0 = nI 3 ∧ sf S 34 1 = 31 ∧ im ≤ 3 ∧ sf S 34 3 = nI im ∧ sf S 59 38 = nI im ∧ (∀ j, j < 3 → sf S (53 + 2 * j) 0 = nI 16 ∧ sf S (53 + 2 * j) 1 = 31) ∧ ∀ j, j < im → I1 S d j (ws j)
abbrev pa (p : WT) : Nat := p.1.1
abbrev pa' (p : WT) : Nat := p.1.2.1
abbrev pb (p : WT) : Nat := p.1.2.2.1
abbrev pb' (p : WT) : Nat := p.1.2.2.2.1
abbrev pq (p : WT) : Nat := p.1.2.2.2.2.1
abbrev pq' (p : WT) : Nat := p.1.2.2.2.2.2
abbrev pd (p : WT) : HD := p.2.1
abbrev pm (p : WT) : Nat := p.2.2.1
abbrev pw (p : WT) : Nat → Nat × Nat := p.2.2.2.1
abbrev pl (p : WT) : List (Nat × Nat) := p.2.2.2.2.1
abbrev pt (p : WT) : Nat := p.2.2.2.2.2.1
abbrev pc' (p : WT) : Nat → Nat := p.2.2.2.2.2.2.1
abbrev pk (p : WT) : Nat := p.2.2.2.2.2.2.2.1
abbrev pi' (p : WT) : Nat := p.2.2.2.2.2.2.2.2.1
abbrev ps' (p : WT) : Nat → Nat := p.2.2.2.2.2.2.2.2.2
def IB (S : Sx) (p : WT) : Prop := CX S 3 16 17 (pa p) (pb p) (pd p) (pm p) (pw p) (sa S 535) ∧ IP S (pa p) (pa' p) (pb p) (pb' p) (pq p) (pq' p) ∧ IM S (pd p) (pm p) (pw p) ∧ IL S (pq p) (pd p) (pl p) ∧ IT S (pt p) (pc' p) ∧ IK S ∧ IW S (pd p) (pk p) ∧ II S (pd p) (pi' p) (ps' p)
def INV (S : Sx) : Prop := ∃ p, IB S p
/-- but for what holds nothing from one call to the next, the law's long, and the counters of refusals -/
def xF (a k : Nat) : Bool := scF a k || (a == 59 && k == 0) || (a == 0 && (k == 14 || k == 15))
def scB (a : Nat) : Bool := scA a || a == 61
def eqJ (S X : Sx) : Prop := (∀ a k, xF a k = false → sf X a k = sf S a k) ∧ (∀ a k, a ≠ 29 → sp X a k = sp S a k) ∧ (∀ a, scB a = false → sa X a = sa S a)
def eqI (S X : Sx) : Prop := eqJ S X ∧ sf X 0 14 = sf S 0 14 ∧ sf X 0 15 = sf S 0 15 ∧ sa X 61 = sa S 61
theorem eqJ_r (S : Sx) : eqJ S S := ⟨fun _ _ _ => rfl, fun _ _ _ => rfl, fun _ _ => rfl⟩
theorem eqJ_t {S X Y : Sx} (h : eqJ S X) (h' : eqJ X Y) : eqJ S Y := ⟨fun a k q => (h'.1 a k q).trans (h.1 a k q), fun a k q => (h'.2.1 a k q).trans (h.2.1 a k q), fun a q => (h'.2.2 a q).trans (h.2.2 a q)⟩
theorem eqI_r (S : Sx) : eqI S S := ⟨eqJ_r S, rfl, rfl, rfl⟩
theorem eqI_t {S X Y : Sx} (h : eqI S X) (h' : eqI X Y) : eqI S Y := ⟨eqJ_t h.1 h'.1, h'.2.1.trans h.2.1, h'.2.2.1.trans h.2.2.1, h'.2.2.2.trans h.2.2.2⟩
theorem xF_sc {a k : Nat} (h : xF a k = false) : scF a k = false := by unfold xF at h; exact (Bool.or_eq_false_iff.mp (Bool.or_eq_false_iff.mp h).1).1
theorem scB_sc {a : Nat} (h : scB a = false) : scA a = false := by unfold scB at h; exact (Bool.or_eq_false_iff.mp h).1
theorem xF_n {a k : Nat} (h : xF a k = false) : ¬ (a = 59 ∧ k = 0) := fun e => by
  obtain ⟨rfl, rfl⟩ := e
  exact absurd h (by decide)
theorem eqI_535 {S X : Sx} (h : eqI S X) : sa X 535 = sa S 535 := h.1.2.2 535 rfl
theorem eqI_off {S X : Sx} (h : off3 S X) : eqI S X := ⟨⟨fun a k q => h.1 a k (xF_sc q), h.2.1, fun a q => h.2.2.1 a (scB_sc q)⟩, h.1 0 14 rfl, h.1 0 15 rfl, h.2.2.1 61 rfl⟩
theorem eqI_0 (S : Sx) : eqI S (S0 S) := ⟨⟨fun a k q => sf_o (xF_n q), fun _ _ _ => rfl, fun _ _ => rfl⟩, sf_o (by decide), sf_o (by decide), rfl⟩
theorem eqI_FRC {S X : Sx} (h : FRC prF prA S X) : eqI S X := ⟨⟨fun a k q => h.1.1 a k (decide_eq_false (fun e => by obtain ⟨rfl, rfl⟩ := e; exact absurd q (by decide))), fun a k _ => by rw [h.1.2.1], fun a q => h.1.2.2 a (decide_eq_false (fun e => by
  obtain rfl | rfl | rfl : a = 25 ∨ a = 26 ∨ a = 27 := by omega
  all_goals exact absurd q (by decide)))⟩, h.1.1 0 14 rfl, h.1.1 0 15 rfl, h.1.2.2 61 rfl⟩
section IEQ
variable {S X : Sx} {d : HD}
theorem sc_r {a n : Nat} (h : (List.range n).all (fun k => !scB (a + k)) = true) {k : Nat} (hk : k < n) : scB (a + k) = false := by
  have := List.all_eq_true.mp h k (List.mem_range.mpr hk)
  cases e : scB (a + k)
  · rfl
  · rw [e] at this; cases this
theorem CX_eqI {a b m : Nat} {wv : Nat → Nat × Nat} {f : Row} (h : eqJ S X) (hX : CX S 3 16 17 a b d m wv f) : CX X 3 16 17 a b d m wv f := by
  obtain ⟨hCL, hHL, hLL, hp2, hp3, hHC, hv, hW, hLC, hRC⟩ := hX
  have hb : sa X (b + 1) = sa S (b + 1) := h.2.2 _ (by rcases hLL with rfl | rfl <;> rfl)
  refine ⟨hCL, hHL, hLL, (h.2.1 3 2 (by decide)).trans hp2, (h.2.1 3 3 (by decide)).trans hp3, HC_c hHC (fun k k1 k2 => h.1 a k ?_) (fun k k1 k2 => h.2.2 _ ?_), hv, hW, ⟨(h.1 b 2 (by rcases hLL with rfl | rfl <;> rfl)).trans hLC.1, fun k hk => by rw [hb]; exact hLC.2 k hk⟩, by rw [h.2.2 16 rfl]; exact hRC⟩
  · obtain rfl | rfl | rfl : k = 8 ∨ k = 9 ∨ k = 10 := by omega
    all_goals (rcases hHL with rfl | rfl <;> rfl)
  · obtain rfl | rfl | rfl | rfl | rfl | rfl | rfl | rfl : k = 1 ∨ k = 2 ∨ k = 3 ∨ k = 4 ∨ k = 5 ∨ k = 6 ∨ k = 7 ∨ k = 8 := by omega
    all_goals (rcases hHL with rfl | rfl <;> rfl)
theorem IP_eqI {a a' b b' q q' : Nat} (h : eqJ S X) (i : IP S a a' b b' q q') : IP X a a' b b' q q' := by
  obtain ⟨i1, i2, i3, i4, i5, i6, i7, i8, i9, i10, i11⟩ := i
  exact ⟨i1, i2, (h.2.1 0 10 (by decide)).trans i3, i4, i5, (h.2.1 0 11 (by decide)).trans i6, i7, i8, i9, (h.2.1 0 9 (by decide)).trans i10, (h.2.1 0 12 (by decide)).trans i11⟩
theorem hgR_sc {a : Nat} (h : hgR a = true) : scB a = false := by
  by_cases q : a < 563
  · have := List.all_eq_true.mp (show (List.range 563).all (fun a => !hgR a || !scB a) = true by decide +kernel) a (List.mem_range.mpr q)
    rw [h] at this
    cases e : scB a
    · rfl
    · rw [e] at this; cases this
  · exfalso
    unfold hgR at h
    simp at h
    omega
theorem LawM_eqI {m : Nat} {wv : Nat → Nat × Nat} (h : eqJ S X) (hW : LawW m wv) (hM : LawM S m wv) : LawM X m wv := ⟨(h.1 59 21 rfl).trans hM.1, fun k hk => by
  have := hW.1
  rw [h.2.2 (109 + k) (sc_r (n := 160) (by decide +kernel) (by omega))]
  exact hM.2 k hk⟩
theorem IM_eqI {m : Nat} {wv : Nat → Nat × Nat} (h : eqJ S X) (hv : HV d) (hW : LawW m wv) (i : IM S d m wv) : IM X d m wv := by
  obtain ⟨i1, i2, i3, i4⟩ := i
  have e : sa X 535 = sa S 535 := h.2.2 535 rfl
  exact ⟨HG_cg i1 hv (fun a ha => h.2.2 a (hgR_sc ha)), LawM_eqI h hW i2, by rw [e]; exact i3, by rw [e]; exact i4⟩
theorem IL_eqI {q : Nat} {l : List (Nat × Nat)} (h : eqJ S X) (hq : SLa q) (hv : HV d) (i : IL S q d l) : IL X q d l := by
  obtain ⟨i1, i2, i3, i4⟩ := i
  have hl : l.length ≤ 10 := by
    have h10 : dNr d ≤ 10 := hv.2.1
    have := nd_len (dNr d) (l.map Prod.fst) i4.1 (fun x hx => by obtain ⟨z, hz, rfl⟩ := List.mem_map.mp hx; exact (i4.2 z hz).1)
    rw [List.length_map] at this
    omega
  refine ⟨⟨(h.1 q 1 (by rcases hq with rfl | rfl <;> rfl)).trans i1.1, fun r hr => ?_⟩, (h.1 59 35 rfl).trans i2, fun k hk => ?_, i4⟩
  · rw [h.2.2 (q + 1) (by rcases hq with rfl | rfl <;> rfl)]; exact i1.2 r hr
  · rw [h.2.2 (431 + k) (sc_r (n := 10) (by decide +kernel) (by omega))]; exact i3 k hk
theorem IT_eqI {tp : Nat} {cc : Nat → Nat} (h : eqJ S X) (i : IT S tp cc) : IT X tp cc := by
  obtain ⟨i1, i2, i3, i4⟩ := i
  refine ⟨i1, (h.1 1 1 rfl).trans i2, (h.1 59 1 rfl).trans i3, fun k hk => ?_⟩
  rw [h.2.2 2 rfl, h.2.2 60 rfl]
  exact i4 k hk
theorem IK_eqI (h : eqI S X) (i : IK S) : IK X := by
  obtain ⟨i1, i2, i3, i4⟩ := i
  obtain ⟨h, h14, h15, e⟩ := h
  exact ⟨((h.1 1 6 rfl).trans i1).trans (h.1 59 3 rfl).symm, ((h.1 0 13 rfl).trans i2).trans (h.1 59 37 rfl).symm, (h14.trans i3).trans (by rw [e]), (h15.trans i4).trans (by rw [e])⟩
theorem IW_eqI {w : Nat} (h : eqJ S X) (i : IW S d w) : IW X d w := by
  obtain ⟨i1, i2, i3, i4, i5, i6⟩ := i
  refine ⟨(h.1 32 0 rfl).trans i1, (h.1 32 1 rfl).trans i2, i3, (h.1 32 3 rfl).trans i4, (h.1 59 36 rfl).trans i5, fun k hk => ?_⟩
  rw [h.2.2 33 rfl, h.2.2 (538 + k) (sc_r (n := 16) (by decide +kernel) (by omega))]
  exact i6 k hk
theorem sh3 {P : Nat → Prop} (h0 : P 0) (h1 : P 1) (h2 : P 2) {j : Nat} (hj : j < 3) : P j := by
  obtain rfl | rfl | rfl : j = 0 ∨ j = 1 ∨ j = 2 := by omega
  · exact h0
  · exact h1
  · exact h2
theorem I1_eqI {j w : Nat} (h : eqJ S X) (hj : j < 3) (i : I1 S d j w) : I1 X d j w := by
  obtain ⟨i1, i2, i3, i4, i5⟩ := i
  have e3 : sf X (53 + 2 * j) 3 = sf S (53 + 2 * j) 3 := h.1 _ _ (sh3 (P := fun j => xF (53 + 2 * j) 3 = false) rfl rfl rfl hj)
  have e4 : sa X (53 + 2 * j + 1) = sa S (53 + 2 * j + 1) := h.2.2 _ (sh3 (P := fun j => scB (53 + 2 * j + 1) = false) rfl rfl rfl hj)
  have e5 : sa X (555 + j) = sa S (555 + j) := h.2.2 _ (sh3 (P := fun j => scB (555 + j) = false) rfl rfl rfl hj)
  have e6 : sa X 35 = sa S 35 := h.2.2 35 rfl
  refine ⟨i1, e3.trans i2, by rw [e5]; exact i3, by rw [e5, e6]; exact i4, fun k hk => ?_⟩
  rw [e4, e5]
  exact i5 k hk
theorem II_eqI {im : Nat} {ws : Nat → Nat} (h : eqJ S X) (i : II S d im ws) : II X d im ws := by
  obtain ⟨i1, i2, i3, i4, i5, i6, i7⟩ := i
  refine ⟨(h.1 34 0 rfl).trans i1, (h.1 34 1 rfl).trans i2, i3, (h.1 34 3 rfl).trans i4, (h.1 59 38 rfl).trans i5, fun j hj => ?_, fun j hj => I1_eqI h (by omega) (i7 j hj)⟩
  have e0 : sf X (53 + 2 * j) 0 = sf S (53 + 2 * j) 0 := h.1 _ _ (sh3 (P := fun j => xF (53 + 2 * j) 0 = false) rfl rfl rfl hj)
  have e1 : sf X (53 + 2 * j) 1 = sf S (53 + 2 * j) 1 := h.1 _ _ (sh3 (P := fun j => xF (53 + 2 * j) 1 = false) rfl rfl rfl hj)
  exact ⟨e0.trans (i6 j hj).1, e1.trans (i6 j hj).2⟩
theorem IB_eqJ {p : WT} (h : eqJ S X) (i : IB S p) (hk : IK X) : IB X p := by
  obtain ⟨c1, c2, c3, c4, c5, c6, c7, c8⟩ := i
  have e : sa X 535 = sa S 535 := h.2.2 535 rfl
  have hv : HV (pd p) := c1.2.2.2.2.2.2.1
  have hW : LawW (pm p) (pw p) := c1.2.2.2.2.2.2.2.1
  exact ⟨by rw [e]; exact CX_eqI h c1, IP_eqI h c2, IM_eqI h hv hW c3, IL_eqI h c2.2.2.2.2.2.2.1 hv c4, IT_eqI h c5, hk, IW_eqI h c7, II_eqI h c8⟩
theorem IB_eqI {p : WT} (h : eqI S X) (i : IB S p) : IB X p := IB_eqJ h.1 i (IK_eqI h i.2.2.2.2.2.1)
theorem INV_eqI (h : eqI S X) (i : INV S) : INV X := by
  obtain ⟨p, i⟩ := i
  exact ⟨p, IB_eqI h i⟩
/-- the class's counter of refusals goes on -/
def ce (S : Sx) (k : Nat) : Sx := sF S 0 (14 + k) (sf S 0 (14 + k) + 1)
theorem IB_er {p : WT} {k : Nat} {w : Int32} (hk : k < 2) (i : IB S p) : IB (er (ce S k) w k) p := by
  refine IB_eqJ (S := S) ⟨fun a j q => ?_, fun _ _ _ => rfl, fun a q => up2_o (fun e => by subst e; exact absurd q (by decide))⟩ i ?_
  · show sf (sF (sF (sF S 0 (14 + k) (sf S 0 (14 + k) + 1)) 59 0 0) 59 0 w) a j = _
    rw [sf_o (xF_n q), sf_o (xF_n q), sf_o]
    intro e
    obtain ⟨rfl, rfl⟩ := e
    obtain rfl | rfl : k = 0 ∨ k = 1 := by omega
    all_goals exact absurd q (by decide)
  · obtain ⟨i1, i2, i3, i4⟩ := i.2.2.2.2.2.1
    obtain rfl | rfl : k = 0 ∨ k = 1 := by omega
    · exact ⟨i1, i2, congrArg (fun z => z + 1) i3, i4⟩
    · exact ⟨i1, i2, i3, congrArg (fun z => z + 1) i4⟩
end IEQ
