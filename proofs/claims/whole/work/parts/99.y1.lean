/-! ===== what a call changes ===== -/
def fCX (a k : Nat) : Bool := ((a == 4 || a == 39) && (8 ≤ k && k ≤ 10)) || ((a == 13 || a == 48) && k == 2)
def aCX (a : Nat) : Bool := (4 < a && a ≤ 12) || (39 < a && a ≤ 47) || a == 14 || a == 49
def fIM (a k : Nat) : Bool := a == 59 && k == 21
def aIM (a : Nat) : Bool := hgR a || (109 ≤ a && a < 269)
def fIL (a k : Nat) : Bool := ((a == 37 || a == 51) && k == 1) || (a == 59 && k == 35)
def aIL (a : Nat) : Bool := a == 38 || a == 52 || (431 ≤ a && a < 441)
def fIT (a k : Nat) : Bool := (a == 1 || a == 59) && k == 1
def aIT (a : Nat) : Bool := a == 2 || a == 60
def fIW (a k : Nat) : Bool := (a == 32 && (k == 0 || k == 1 || k == 3)) || (a == 59 && k == 36)
def aIW (a : Nat) : Bool := a == 33 || (538 ≤ a && a < 554)
def fII (a k : Nat) : Bool := (a == 34 && (k == 0 || k == 1 || k == 3)) || (a == 59 && k == 38) || ((a == 53 || a == 55 || a == 57) && (k == 0 || k == 1 || k == 3))
def aII (a : Nat) : Bool := a == 35 || a == 54 || a == 56 || a == 58 || (555 ≤ a && a < 558)
def eqR (F : Nat → Nat → Bool) (A : Nat → Bool) (S X : Sx) : Prop := (∀ a k, F a k = true → sf X a k = sf S a k) ∧ (∀ a, A a = true → sa X a = sa S a)
section EQR
variable {S X Y : Sx} {d : HD} {F F' : Nat → Nat → Bool} {A A' : Nat → Bool}
theorem eqR_t (h : eqR F A S X) (h' : eqR F A X Y) : eqR F A S Y := ⟨fun a k q => (h'.1 a k q).trans (h.1 a k q), fun a q => (h'.2 a q).trans (h.2 a q)⟩
theorem eqR_M (h : FRM F' A' S X) (hF : ∀ a k, ¬ (F a k = true ∧ F' a k = true)) (hA : ∀ a, ¬ (A a = true ∧ A' a = true)) : eqR F A S X := ⟨fun a k q => h.1 a k (Bool.eq_false_iff.mpr (fun w => hF a k ⟨q, w⟩)), fun a q => h.2.2 a (Bool.eq_false_iff.mpr (fun w => hA a ⟨q, w⟩))⟩
theorem CX_r {a b m : Nat} {wv : Nat → Nat × Nat} {f f' : Row} (h : eqR fCX aCX S X) (h2 : sp X 3 2 = sp S 3 2) (h3 : sp X 3 3 = sp S 3 3) (hR : RC d (sa X 16) f') (hX : CX S 3 16 17 a b d m wv f) : CX X 3 16 17 a b d m wv f' := by
  obtain ⟨hCL, hHL, hLL, hp2, hp3, hHC, hv, hW, hLC, hRC⟩ := hX
  have hb : sa X (b + 1) = sa S (b + 1) := h.2 _ (by rcases hLL with rfl | rfl <;> rfl)
  refine ⟨hCL, hHL, hLL, h2.trans hp2, h3.trans hp3, HC_c hHC (fun k k1 k2 => h.1 a k ?_) (fun k k1 k2 => h.2 _ ?_), hv, hW, ⟨(h.1 b 2 (by rcases hLL with rfl | rfl <;> rfl)).trans hLC.1, fun k hk => by rw [hb]; exact hLC.2 k hk⟩, hR⟩
  · obtain rfl | rfl | rfl : k = 8 ∨ k = 9 ∨ k = 10 := by omega
    all_goals (rcases hHL with rfl | rfl <;> rfl)
  · obtain rfl | rfl | rfl | rfl | rfl | rfl | rfl | rfl : k = 1 ∨ k = 2 ∨ k = 3 ∨ k = 4 ∨ k = 5 ∨ k = 6 ∨ k = 7 ∨ k = 8 := by omega
    all_goals (rcases hHL with rfl | rfl <;> rfl)
theorem IP_r {a a' b b' q q' : Nat} (h : ∀ k, sp X 0 k = sp S 0 k) (i : IP S a a' b b' q q') : IP X a a' b b' q q' := by
  obtain ⟨i1, i2, i3, i4, i5, i6, i7, i8, i9, i10, i11⟩ := i
  exact ⟨i1, i2, (h 10).trans i3, i4, i5, (h 11).trans i6, i7, i8, i9, (h 9).trans i10, (h 12).trans i11⟩
theorem IM_r {m : Nat} {wv : Nat → Nat × Nat} (h : eqR fIM aIM S X) (hv : HV d) (hW : LawW m wv) (hD : DT d (sa X 535)) (hK : KA d (sa X 535)) (i : IM S d m wv) : IM X d m wv := by
  obtain ⟨i1, i2, -, -⟩ := i
  refine ⟨HG_cg i1 hv (fun a ha => h.2 a (by unfold aIM; rw [ha]; rfl)), ⟨(h.1 59 21 rfl).trans i2.1, fun k hk => ?_⟩, hD, hK⟩
  have := hW.1
  rw [h.2 (109 + k) (by unfold aIM; simp; omega)]
  exact i2.2 k hk
theorem IL_r {q : Nat} {l : List (Nat × Nat)} (h : eqR fIL aIL S X) (hq : SLa q) (hv : HV d) (i : IL S q d l) : IL X q d l := by
  have hl : l.length ≤ 10 := (LN_IL hv i).2.1
  obtain ⟨i1, i2, i3, i4⟩ := i
  refine ⟨⟨(h.1 q 1 (by rcases hq with rfl | rfl <;> rfl)).trans i1.1, fun r hr => ?_⟩, (h.1 59 35 rfl).trans i2, fun k hk => ?_, i4⟩
  · rw [h.2 (q + 1) (by rcases hq with rfl | rfl <;> rfl)]; exact i1.2 r hr
  · rw [h.2 (431 + k) (by unfold aIL; simp; omega)]; exact i3 k hk
theorem IT_r {tp : Nat} {cc : Nat → Nat} (h : eqR fIT aIT S X) (i : IT S tp cc) : IT X tp cc := by
  obtain ⟨i1, i2, i3, i4⟩ := i
  refine ⟨i1, (h.1 1 1 rfl).trans i2, (h.1 59 1 rfl).trans i3, fun k hk => ?_⟩
  rw [h.2 2 rfl, h.2 60 rfl]
  exact i4 k hk
theorem IW_r {w : Nat} (h : eqR fIW aIW S X) (i : IW S d w) : IW X d w := by
  obtain ⟨i1, i2, i3, i4, i5, i6⟩ := i
  refine ⟨(h.1 32 0 rfl).trans i1, (h.1 32 1 rfl).trans i2, i3, (h.1 32 3 rfl).trans i4, (h.1 59 36 rfl).trans i5, fun k hk => ?_⟩
  rw [h.2 33 rfl, h.2 (538 + k) (by unfold aIW; simp; omega)]
  exact i6 k hk
theorem I1_r {j w : Nat} (h3 : sf X (53 + 2 * j) 3 = sf S (53 + 2 * j) 3) (h4 : sa X (53 + 2 * j + 1) = sa S (53 + 2 * j + 1)) (h5 : sa X (555 + j) = sa S (555 + j)) (hv : HV d) (h6 : ∀ i, i < 31 → sa X 35 (j * 31 + i) = sa S 35 (j * 31 + i)) (i : I1 S d j w) : I1 X d j w := by
  obtain ⟨i1, i2, i3, i4, i5⟩ := i
  refine ⟨i1, h3.trans i2, by rw [h5]; exact i3, by rw [h5]; exact RG_cg hv i4 h6 (fun _ _ => rfl), fun k hk => ?_⟩
  rw [h4, h5]
  exact i5 k hk
theorem II_r {im : Nat} {ws : Nat → Nat} (h : eqR fII aII S X) (hv : HV d) (i : II S d im ws) : II X d im ws := by
  obtain ⟨i1, i2, i3, i4, i5, i6, i7⟩ := i
  refine ⟨(h.1 34 0 rfl).trans i1, (h.1 34 1 rfl).trans i2, i3, (h.1 34 3 rfl).trans i4, (h.1 59 38 rfl).trans i5, fun j hj => ?_, fun j hj => ?_⟩
  · have e0 : sf X (53 + 2 * j) 0 = sf S (53 + 2 * j) 0 := h.1 _ _ (sh3 (P := fun j => fII (53 + 2 * j) 0 = true) rfl rfl rfl hj)
    have e1 : sf X (53 + 2 * j) 1 = sf S (53 + 2 * j) 1 := h.1 _ _ (sh3 (P := fun j => fII (53 + 2 * j) 1 = true) rfl rfl rfl hj)
    exact ⟨e0.trans (i6 j hj).1, e1.trans (i6 j hj).2⟩
  · have hj3 : j < 3 := by omega
    exact I1_r (h.1 _ _ (sh3 (P := fun j => fII (53 + 2 * j) 3 = true) rfl rfl rfl hj3)) (h.2 _ (sh3 (P := fun j => aII (53 + 2 * j + 1) = true) rfl rfl rfl hj3)) (h.2 _ (sh3 (P := fun j => aII (555 + j) = true) rfl rfl rfl hj3)) hv (fun i _ => by rw [h.2 35 rfl]) (i7 j hj)
theorem FRM_AA (h : FRM F A S X) {a : Nat} {f : Row} (ha : A a = true) : FRM F A S (sAA X a f) := ⟨h.1, h.2.1, fun b q => (sAA_o (fun e => by subst e; rw [ha] at q; cases q)).trans (h.2.2 b q)⟩
theorem FRM_cp (h : FRM F A S X) {a b : Nat} (i : Nat) (ha : A a = true) : FRM F A S (cpS X b a i) := ⟨fun x k q => by rw [cpS_f]; exact h.1 x k q, by rw [cpS_p]; exact h.2.1, fun x q => (cpS_o X (fun e => by subst e; rw [ha] at q; cases q) i).trans (h.2.2 x q)⟩
end EQR
/-! ===== undo ===== -/
def uF (a k : Nat) : Bool := (a == 32 && k == 3) || (a == 0 && k == 13) || (a == 59 && (k == 0 || k == 36 || k == 37))
def uA (a : Nat) : Bool := a == 16 || a == 535
theorem cpy_i {f g : Row} {s t n k : Nat} (h : t ≤ k) (h2 : k < t + n) : va_cpy f g s t n k = f (s + (k - t)) := if_pos ⟨h, h2⟩
theorem cpy_o {f g : Row} {s t n k : Nat} (h : ¬ (t ≤ k ∧ k < t + n)) : va_cpy f g s t n k = g k := if_neg h
theorem bRG {S : Sx} {p : WT} (h : IB S p) : RG (pd p) (sa S 16) (sa S 535) := ⟨h.1.2.2.2.2.2.2.2.2.2, bD h, bK h⟩
theorem st_undo {g : Gp} {S : Sx} (hl : (gl g).stackTraces = false) (hI : INV S) : SP g INV mX10_undo mX11_undo [] S := by
  obtain ⟨p, hB⟩ := hI
  obtain ⟨c1, c2, c3, c4, c5, c6, c7, c8⟩ := id hB
  by_cases h0 : pk p = 0
  · refine sp_q (d1 := 0) (d2 := 1) hB (by decide) (by decide) (qT (r_X10_undo_no (by rw [c7.2.2.2.1, h0]; rfl))) (fun Y hY hBY => mT (r_X11_undo_no (by rw [hBY.2.2.2.2.2.2.1.2.2.2.2.1, h0]; rfl)))
  · obtain ⟨h, hh⟩ : ∃ h, pk p = h + 1 := ⟨pk p - 1, by omega⟩
    have h16 : h < 16 := by have := c7.2.2.1; omega
    have n3 := c7.2.2.2.1
    rw [hh] at n3
    refine ⟨1, 1, _, by decide, by decide, RI_RT (r_X10_undo c7.1 c7.2.1 n3 h16), fun x X hP => ?_⟩
    obtain ⟨rfl, hX⟩ := hP
    have n5 : sf X 59 36 = nI (h + 1) := by
      rw [hX, sf_o (by decide), sf_AA, sf_o (by decide), c7.2.2.2.2.1, hh]
    refine RI_m (RI_RT (r_X11_undo n5 h16)) (fun y Z ⟨e1, e2⟩ => ⟨e1.symm, ?_⟩)
    have fX : FRM uF uA S X := by
      rw [hX]
      exact FRM_F (FRM_AA (FRM_F (FRM_r uF uA S) rfl) rfl) rfl
    have fZ : FRM uF uA S Z := by
      rw [e2]
      exact FRM_F (FRM_cp (FRM_F (FRM_F fX rfl) rfl) 45 rfl) rfl
    have hG := c7.2.2.2.2.2 h (by omega)
    have z16 : ∀ k, k < 31 → sa Z 16 k = sa S 33 (h * 31 + k) := fun k hk => by
      rw [e2, sa_F, cpS_o _ (by decide), sa_F]
      show sa (sF X 59 0 0) 16 k = _
      rw [sa_F, hX, sa_F, sAA_s, cpy_i (by omega) (by omega)]
      rfl
    have z535 : ∀ k, k < 45 → sa Z 535 k = sa S (538 + h) k := fun k hk => by
      rw [e2, sa_F, cpS_s _ (by omega), if_pos hk, sa_F]
      show sa (sF X 59 0 0) (538 + h) k = _
      rw [sa_F, fX.2.2 (538 + h) (by unfold uA; simp; omega)]
    have hR := RG_cg (bhv hB) hG (c' := sa Z 16) (f' := sa Z 535) z16 z535
    have hv : HV (pd p) := bhv hB
    have hW : LawW (pm p) (pw p) := bW hB
    have sp3 : sp Z = sp S := fZ.2.1
    refine ⟨(p.1, pd p, pm p, pw p, pl p, pt p, pc' p, h, pi' p, ps' p), CX_r (eqR_M fZ (fun a k => by simp [fCX, uF]; omega) (fun a => by simp [aCX, uA]; omega)) (by rw [sp3]) (by rw [sp3]) hR.1 c1, IP_r (fun k => by rw [sp3]) c2, IM_r (eqR_M fZ (fun a k => by simp [fIM, uF]; omega) (fun a => by simp [aIM, hgR, uA]; omega)) hv hW hR.2.1 hR.2.2 c3, IL_r (eqR_M fZ (fun a k => by simp [fIL, uF]; omega) (fun a => by simp [aIL, uA]; omega)) c2.2.2.2.2.2.2.1 hv c4, IT_r (eqR_M fZ (fun a k => by simp [fIT, uF]; omega) (fun a => by simp [aIT, uA]; omega)) c5, ?_, ?_, II_r (eqR_M fZ (fun a k => by simp [fII, uF]; omega) (fun a => by simp [aII, uA]; omega)) hv c8⟩
    · obtain ⟨i1, i2, i3, i4⟩ := c6
      refine ⟨(fZ.1 1 6 rfl).trans (i1.trans (fZ.1 59 3 rfl).symm), ?_, (fZ.1 0 14 rfl).trans (i3.trans (by rw [fZ.2.2 61 rfl])), (fZ.1 0 15 rfl).trans (i4.trans (by rw [fZ.2.2 61 rfl]))⟩
      rw [e2, sF_s, sf_o (by decide), cpS_f, sf_o (by decide)]
      show sf (sF X 59 0 0) 0 13 = 0
      rw [sf_o (by decide), hX, sF_s]
    · obtain ⟨j1, j2, j3, j4, j5, j6⟩ := c7
      refine ⟨(fZ.1 32 0 rfl).trans j1, (fZ.1 32 1 rfl).trans j2, by show h ≤ 16; omega, ?_, ?_, fun k hk => ?_⟩
      · rw [e2, sf_o (by decide), cpS_f, sf_o (by decide)]
        show sf (sF X 59 0 0) 32 3 = nI h
        rw [sf_o (by decide), hX, sf_o (by decide), sf_AA, sF_s]
      · rw [e2, sf_o (by decide), cpS_f, sF_s]
      · have hk : k < h := hk
        rw [fZ.2.2 33 rfl, fZ.2.2 (538 + k) (by unfold uA; simp; omega)]
        exact j6 k (by omega)
