/-! ===== a house's text ===== -/
abbrev HD : Type := List Nat × (Nat → Option Nat) × List (Nat × Nat × Nat) × List (Nat × Nat)
def hA (a : Nat) : Bool := a == 62 || a == 64 || a == 66 || (69 ≤ a && a < 79) || (91 ≤ a && a < 99)
def HO (S Y : Sx) : Prop := (∀ a k, ¬ (a = 59 ∧ k = 7) → sf Y a k = sf S a k) ∧ sp Y = sp S ∧ (∀ a, hA a = false → sa Y a = sa S a) ∧ sl Y = sl S ∧ sx Y = sx S
theorem HO_r (S : Sx) : HO S S := ⟨fun _ _ _ => rfl, rfl, fun _ _ => rfl, rfl, rfl⟩
theorem HO_A {S Y : Sx} (h : HO S Y) {a k : Nat} {v : Int32} (ha : hA a = true) : HO S (sA Y a k v) := ⟨h.1, h.2.1, fun b hb => (up2_o (fun q => by subst q; rw [ha] at hb; cases hb)).trans (h.2.2.1 b hb), h.2.2.2⟩
theorem HO_F {S Y : Sx} (h : HO S Y) {v : Int32} : HO S (sF Y 59 7 v) := ⟨fun a k q => by
  have : sf (sF Y 59 7 v) a k = sf Y a k := by
    show up2 (sf Y) 59 7 v a k = _
    unfold up2
    by_cases e : a = 59
    · rw [if_pos e, if_neg (fun e2 => q ⟨e, e2⟩)]
    · rw [if_neg e]
  rw [this]
  exact h.1 a k q, h.2.1, h.2.2.1, h.2.2.2⟩
theorem HO_TX {S Y : Sx} (h : HO S Y) {n : Nat} {cc : Nat → Nat} (hx : TX S n cc) : TX Y n cc := ⟨by rw [h.1 59 2 (by omega)]; exact hx.1, hx.2.1, fun k hk => by rw [h.2.2.1 60 rfl]; exact hx.2.2.1 k hk, hx.2.2.2⟩
def HM (Y : Sx) (d : HD) : Prop := sa Y 62 0 = nI d.1.length ∧ sa Y 62 1 = nI d.2.2.1.length ∧ sa Y 62 2 = nI d.2.2.2.length ∧ d.1.length ≤ 8 ∧ d.2.2.1.length ≤ 10 ∧ d.2.2.2.length ≤ 8 ∧ (∀ i, i < d.1.length → sa Y 64 i = nI (d.1.getD i 0)) ∧ (∀ i, i < 8 → sa Y 66 i = ov (d.2.1 i)) ∧ (∀ i, i < d.2.2.1.length → sa Y (69 + i) 0 = nI (d.2.2.1.getD i (0, 0, 0)).1 ∧ sa Y (69 + i) 1 = nI (d.2.2.1.getD i (0, 0, 0)).2.1 ∧ sa Y (69 + i) 2 = nI (d.2.2.1.getD i (0, 0, 0)).2.2) ∧ (∀ i, i < d.2.2.2.length → sa Y (91 + i) 0 = nI (d.2.2.2.getD i (0, 0)).1 ∧ sa Y (91 + i) 1 = nI (d.2.2.2.getD i (0, 0)).2)
/-- the values are within their bounds -/
def HV (d : HD) : Prop := d.1.length ≤ 8 ∧ d.2.2.1.length ≤ 10 ∧ d.2.2.2.length ≤ 8 ∧ (∀ i, i < d.1.length → d.1.getD i 0 ≤ 15) ∧ (∀ i v, d.2.1 i = some v → i < d.1.length ∧ v < d.1.length) ∧ (∀ i, i < d.2.2.1.length → (d.2.2.1.getD i (0, 0, 0)).1 < d.1.length ∧ (d.2.2.1.getD i (0, 0, 0)).2.1 < 6 ∧ 1 ≤ (d.2.2.1.getD i (0, 0, 0)).2.2 ∧ (d.2.2.1.getD i (0, 0, 0)).2.2 ≤ 30) ∧ (∀ i, i < d.2.2.2.length → (d.2.2.2.getD i (0, 0)).1 < 6 ∧ 1 ≤ (d.2.2.2.getD i (0, 0)).2 ∧ (d.2.2.2.getD i (0, 0)).2 ≤ 99)
abbrev HS : Type := PT × Nat × HD
def updO (f : Nat → Option Nat) (k : Nat) (v : Option Nat) : Nat → Option Nat := fun i => if i = k then v else f i
def hfull (d : HD) (k : Nat) : Bool := (k == 0 && d.1.length == 8) || (k == 1 && d.2.2.1.length == 10) || (k == 2 && d.2.2.2.length == 8)
def hc0 (cc : Nat → Nat) (n : Nat) (t : PT) (d : HD) : PT × HD := ((pnum cc n 0 16 t).2, (d.1 ++ [(pnum cc n 0 16 t).1], d.2))
def hc1 (cc : Nat → Nat) (n : Nat) (t : PT) (d : HD) : PT × HD :=
  let p1 := pnum cc n 0 d.1.length t
  let p2 := pnum cc n 0 6 p1.2
  let p3 := pnum cc n 1 31 p2.2
  (p3.2, (d.1, d.2.1, d.2.2.1 ++ [(p1.1, p2.1, p3.1)], d.2.2.2))
def hc2 (cc : Nat → Nat) (n : Nat) (t : PT) (d : HD) : PT × HD :=
  let p1 := pnum cc n 0 6 t
  let p2 := pnum cc n 1 100 p1.2
  (p2.2, (d.1, d.2.1, d.2.2.1, d.2.2.2 ++ [(p1.1, p2.1)]))
def hc3 (cc : Nat → Nat) (n : Nat) (t : PT) (d : HD) : PT × HD :=
  let p1 := pnum cc n 0 d.1.length t
  let p2 := pnum cc n 0 d.1.length p1.2
  (p2.2, (d.1, updO d.2.1 p1.1 (some p2.1), d.2.2))
def hck (cc : Nat → Nat) (n k : Nat) (t : PT) (d : HD) : PT × HD := match k with
  | 0 => hc0 cc n t d
  | 1 => hc1 cc n t d
  | 2 => hc2 cc n t d
  | _ => hc3 cc n t d
/-- one clause, read where no fault is yet -/
def hcl (cc : Nat → Nat) (n : Nat) (s : HS) : HS :=
  match wix cc n (pbl cc n s.1.1) wHou 0 with
  | none => ((pbl cc n s.1.1, 1, pbl cc n s.1.1), s.2)
  | some k => if s.2.1 = 60 ∨ hfull s.2.2 k = true then ((pbl cc n s.1.1, 3, pbl cc n s.1.1), s.2) else
    (psg cc n 59 (hck cc n k (pwe cc n (pbl cc n s.1.1), s.1.2) s.2.2).1, s.2.1 + 1, (hck cc n k (pwe cc n (pbl cc n s.1.1), s.1.2) s.2.2).2)
def hlp (cc : Nat → Nat) (n : Nat) : Nat → HS → Option HS
  | 0, _ => none
  | f + 1, s => if s.1.2.1 = 0 ∧ s.1.1 < n then hlp cc n f ((pbl cc n (hcl cc n s).1.1, (hcl cc n s).1.2), (hcl cc n s).2) else some s
theorem pnum_no {cc : Nat → Nat} {n lo hi : Nat} {t : PT} (h : t.2.1 ≠ 0) : pnum cc n lo hi t = (0, t) := if_pos h
theorem PO_hck {S : Sx} {n : Nat} {cc : Nat → Nat} (hx : TX S n cc) {t : PT} (h : PO n t) (k : Nat) (d : HD) : PO n (hck cc n k t d).1 := by
  match k with
  | 0 => exact PO_num hx h _ _
  | 1 => exact PO_num hx (PO_num hx (PO_num hx h _ _) _ _) _ _
  | 2 => exact PO_num hx (PO_num hx h _ _) _ _
  | _ + 3 => exact PO_num hx (PO_num hx h _ _) _ _
theorem PO_hcl {S : Sx} {n : Nat} {cc : Nat → Nat} (hx : TX S n cc) {s : HS} (h : PO n s.1) : PO n (hcl cc n s).1 := by
  have hbl := pbl_le cc h.1
  unfold hcl
  split
  · exact ⟨hbl, by show 1 ≤ 3; omega, hbl⟩
  · split
    · exact ⟨hbl, by show 3 ≤ 3; omega, hbl⟩
    · have p0 : PO n ((pwe cc n (pbl cc n s.1.1), s.1.2) : PT) := ⟨pwe_le cc hbl, h.2⟩
      exact PO_sg (c := 59) hx (PO_hck hx p0 _ _) (by decide)
theorem HV_cl {S : Sx} {n : Nat} {cc : Nat → Nat} (hx : TX S n cc) {s : HS} (h : PO n s.1) (hv : HV s.2.2) (h0 : (hcl cc n s).1.2.1 = 0) : HV (hcl cc n s).2.2 := by
  have hbl := pbl_le cc h.1
  have hn9 := hx.2.2.2 n (Nat.le_refl _)
  obtain ⟨v1, v2, v3, v4, v5, v6, v7⟩ := hv
  unfold hcl at h0 ⊢
  split at h0
  · exact absurd h0 (by show ¬ 1 = 0; omega)
  · next k hk =>
    have hk4 := (wix_lt hk).2
    have hk4 : k < 4 := hk4
    split at h0
    · exact absurd h0 (by show ¬ 3 = 0; omega)
    · next hc =>
      try simp only [if_neg hc]
      have p0 : PO n ((pwe cc n (pbl cc n s.1.1), s.1.2) : PT) := ⟨pwe_le cc hbl, h.2⟩
      obtain ⟨t, ht⟩ : ∃ t : PT, t = (pwe cc n (pbl cc n s.1.1), s.1.2) := ⟨_, rfl⟩
      rw [← ht] at p0 h0 ⊢
      obtain ⟨g1, g2, g3⟩ := psg_ok h0
      have hfl : hfull s.2.2 k = false := by
        cases e : hfull s.2.2 k
        · rfl
        · exact absurd (Or.inr e) hc
      unfold hfull at hfl
      match k, hk4 with
      | 0, _ =>
        have h1 := pnum_ok hn9 p0.1 (show (pnum cc n 0 16 t).2.2.1 = 0 from g1)
        have hl : s.2.2.1.length ≠ 8 := fun e => by rw [e] at hfl; simp at hfl
        refine ⟨by show (s.2.2.1 ++ [_]).length ≤ 8; rw [List.length_append]; show s.2.2.1.length + 1 ≤ 8; omega, v2, v3, fun i hi => ?_, fun i v hq => ?_, fun i hi => ?_, v7⟩
        · have hi : i < (s.2.2.1 ++ [(pnum cc n 0 16 t).1]).length := hi
          rw [List.length_append] at hi
          have hi : i < s.2.2.1.length + 1 := hi
          show (s.2.2.1 ++ [(pnum cc n 0 16 t).1]).getD i 0 ≤ 15
          by_cases e : i = s.2.2.1.length
          · rw [e, getD_e]; omega
          · rw [getD_l (by omega)]; exact v4 i (by omega)
        · have := v5 i v hq
          show i < (s.2.2.1 ++ [_]).length ∧ v < (s.2.2.1 ++ [_]).length
          rw [List.length_append]
          show i < s.2.2.1.length + 1 ∧ v < s.2.2.1.length + 1
          omega
        · have := v6 i hi
          show (s.2.2.2.2.1.getD i (0, 0, 0)).1 < (s.2.2.1 ++ [_]).length ∧ _
          rw [List.length_append]
          exact ⟨by show _ < s.2.2.1.length + 1; omega, this.2⟩
      | 1, _ =>
        have h3 := pnum_ok hn9 (PO_num hx (PO_num hx p0 0 s.2.2.1.length) 0 6).1 (show (pnum cc n 1 31 (pnum cc n 0 6 (pnum cc n 0 s.2.2.1.length t).2).2).2.2.1 = 0 from g1)
        have h2 := pnum_ok hn9 (PO_num hx p0 0 s.2.2.1.length).1 h3.1
        have h1 := pnum_ok hn9 p0.1 h2.1
        have hl : s.2.2.2.2.1.length ≠ 10 := fun e => by rw [e] at hfl; simp at hfl
        refine ⟨v1, by show (s.2.2.2.2.1 ++ [_]).length ≤ 10; rw [List.length_append]; show s.2.2.2.2.1.length + 1 ≤ 10; omega, v3, v4, v5, fun i hi => ?_, v7⟩
        have hi : i < (s.2.2.2.2.1 ++ [((pnum cc n 0 s.2.2.1.length t).1, (pnum cc n 0 6 (pnum cc n 0 s.2.2.1.length t).2).1, (pnum cc n 1 31 (pnum cc n 0 6 (pnum cc n 0 s.2.2.1.length t).2).2).1)]).length := hi
        rw [List.length_append] at hi
        have hi : i < s.2.2.2.2.1.length + 1 := hi
        show ((s.2.2.2.2.1 ++ [((pnum cc n 0 s.2.2.1.length t).1, (pnum cc n 0 6 (pnum cc n 0 s.2.2.1.length t).2).1, (pnum cc n 1 31 (pnum cc n 0 6 (pnum cc n 0 s.2.2.1.length t).2).2).1)]).getD i (0, 0, 0)).1 < s.2.2.1.length ∧ ((s.2.2.2.2.1 ++ [_]).getD i (0, 0, 0)).2.1 < 6 ∧ 1 ≤ ((s.2.2.2.2.1 ++ [_]).getD i (0, 0, 0)).2.2 ∧ ((s.2.2.2.2.1 ++ [_]).getD i (0, 0, 0)).2.2 ≤ 30
        by_cases e : i = s.2.2.2.2.1.length
        · rw [e, getD_e]; exact ⟨h1.2.2.2.2, h2.2.2.2.2, h3.2.2.2.1, Nat.le_of_lt_succ h3.2.2.2.2⟩
        · rw [getD_l (by omega)]; exact v6 i (by omega)
      | 2, _ =>
        have h2 := pnum_ok hn9 (PO_num hx p0 0 6).1 (show (pnum cc n 1 100 (pnum cc n 0 6 t).2).2.2.1 = 0 from g1)
        have h1 := pnum_ok hn9 p0.1 h2.1
        have hl : s.2.2.2.2.2.length ≠ 8 := fun e => by rw [e] at hfl; simp at hfl
        refine ⟨v1, v2, by show (s.2.2.2.2.2 ++ [_]).length ≤ 8; rw [List.length_append]; show s.2.2.2.2.2.length + 1 ≤ 8; omega, v4, v5, v6, fun i hi => ?_⟩
        have hi : i < (s.2.2.2.2.2 ++ [((pnum cc n 0 6 t).1, (pnum cc n 1 100 (pnum cc n 0 6 t).2).1)]).length := hi
        rw [List.length_append] at hi
        have hi : i < s.2.2.2.2.2.length + 1 := hi
        show ((s.2.2.2.2.2 ++ [((pnum cc n 0 6 t).1, (pnum cc n 1 100 (pnum cc n 0 6 t).2).1)]).getD i (0, 0)).1 < 6 ∧ 1 ≤ ((s.2.2.2.2.2 ++ [_]).getD i (0, 0)).2 ∧ ((s.2.2.2.2.2 ++ [_]).getD i (0, 0)).2 ≤ 99
        by_cases e : i = s.2.2.2.2.2.length
        · rw [e, getD_e]; exact ⟨h1.2.2.2.2, h2.2.2.2.1, by have := h2.2.2.2.2; omega⟩
        · rw [getD_l (by omega)]; exact v7 i (by omega)
      | 3, _ =>
        have h2 := pnum_ok hn9 (PO_num hx p0 0 s.2.2.1.length).1 (show (pnum cc n 0 s.2.2.1.length (pnum cc n 0 s.2.2.1.length t).2).2.2.1 = 0 from g1)
        have h1 := pnum_ok hn9 p0.1 h2.1
        refine ⟨v1, v2, v3, v4, fun i v hq => ?_, v6, v7⟩
        have hq : updO s.2.2.2.1 (pnum cc n 0 s.2.2.1.length t).1 (some (pnum cc n 0 s.2.2.1.length (pnum cc n 0 s.2.2.1.length t).2).1) i = some v := hq
        unfold updO at hq
        split at hq
        · next e => cases hq; rw [e]; exact ⟨h1.2.2.2.2, h2.2.2.2.2⟩
        · exact v5 i v hq
      | _ + 4, hh => exact absurd hh (by omega)
