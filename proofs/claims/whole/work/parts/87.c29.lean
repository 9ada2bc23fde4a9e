/-! ===== a law's text comes to an end; its items are in order ===== -/
theorem bind_mono {x x' : Option LgS} {k k' : LgS → Option LgS} {r : LgS} (hx : ∀ y, x = some y → x' = some y) (hk : ∀ y, x = some y → k y = some r → k' y = some r) (h : x.bind k = some r) : x'.bind k' = some r := by
  obtain ⟨y, h1, h2⟩ := Option.bind_eq_some_iff.mp h
  rw [hx y h1]
  exact hk y h1 h2
theorem lp_s {cc : Nat → Nat} {n : Nat} : ∀ (f tag op : Nat) (s r : LgS), lp cc n f tag op s = some r → lp cc n (f + 1) tag op s = some r
  | 0, _, _, _, _, h => by cases h
  | f + 1, 0, op, s, r, h => bind_mono (fun y hy => lp_s f 1 op s y hy) (fun y _ hy => lp_s f 3 op y r hy) (show (lp cc n f 1 op s).bind (fun s1 => lp cc n f 3 op s1) = some r from h)
  | f + 1, 1, op, s, r, h => bind_mono (fun y hy => lp_s f 2 op s y hy) (fun y _ hy => lp_s f 4 op y r hy) (show (lp cc n f 2 op s).bind (fun s1 => lp cc n f 4 op s1) = some r from h)
  | f + 1, 2, op, s, r, h => by
    have h : lpOne cc n (lp cc n f) op s = some r := h
    show lpOne cc n (lp cc n (f + 1)) op s = some r
    unfold lpOne at h ⊢
    split at h
    · next q => rw [if_pos q]; exact h
    · next q =>
      rw [if_neg q]
      split at h
      · next k hk =>
        split at h
        · next z => simp only [if_pos z]; exact h
        · next z =>
          simp only [if_neg z]
          exact bind_mono (fun y hy => lp_s f 0 (op + 1) _ y hy) (fun y _ hy => bind_mono (fun y2 hy2 => lp_s f 0 (op + 1) _ y2 hy2) (fun _ _ z => z) hy) h
      · next hk =>
        split at h
        · next z =>
          simp only [if_pos z]
          split at h
          · next z2 => simp only [if_pos z2]; exact h
          · next z2 =>
            simp only [if_neg z2]
            exact bind_mono (fun y hy => lp_s f 0 (op + 1) _ y hy) (fun _ _ z => z) h
        · next z =>
          simp only [if_neg z]
          exact h
  | f + 1, 3, op, s, r, h => by
    have h : lpSl cc n (lp cc n f) op s = some r := h
    show lpSl cc n (lp cc n (f + 1)) op s = some r
    unfold lpSl at h ⊢
    split at h
    · next q => rw [if_pos q]; exact h
    · next q =>
      rw [if_neg q]
      split at h
      · next z => rw [if_pos z]; exact bind_mono (fun y hy => lp_s f 1 op _ y hy) (fun y _ hy => lp_s f 3 op _ r hy) h
      · next z =>
        rw [if_neg z]
        split at h
        · next z2 => rw [if_pos z2]; exact bind_mono (fun y hy => lp_s f 1 op _ y hy) (fun y _ hy => lp_s f 3 op _ r hy) h
        · next z2 => rw [if_neg z2]; exact h
  | f + 1, t + 4, op, s, r, h => by
    have h : lpPl cc n (lp cc n f) op s = some r := h
    show lpPl cc n (lp cc n (f + 1)) op s = some r
    unfold lpPl at h ⊢
    split at h
    · next q => rw [if_pos q]; exact h
    · next q =>
      rw [if_neg q]
      split at h
      · next z => rw [if_pos z]; exact bind_mono (fun y hy => lp_s f 2 op _ y hy) (fun y _ hy => lp_s f 4 op _ r hy) h
      · next z =>
        rw [if_neg z]
        split at h
        · next z2 => rw [if_pos z2]; exact bind_mono (fun y hy => lp_s f 2 op _ y hy) (fun y _ hy => lp_s f 4 op _ r hy) h
        · next z2 =>
          rw [if_neg z2]
          split at h
          · next z3 => rw [if_pos z3]; exact bind_mono (fun y hy => lp_s f 2 op _ y hy) (fun y _ hy => lp_s f 4 op _ r hy) h
          · next z3 => rw [if_neg z3]; exact h
theorem lp_m {cc : Nat → Nat} {n f f' tag op : Nat} {s r : LgS} (h : lp cc n f tag op s = some r) (hf : f ≤ f') : lp cc n f' tag op s = some r := by
  induction hf with
  | refl => exact h
  | step _ ih => exact lp_s _ _ _ _ _ ih
def LPx (cc : Nat → Nat) (n tag op : Nat) (s : LgS) : Prop := ∃ f r, lp cc n f tag op s = some r
theorem LPx_no {cc : Nat → Nat} {n tag op : Nat} {s : LgS} (h : s.1.2.1 ≠ 0) : LPx cc n tag op s := by
  have h2 : ∀ f, lp cc n (f + 1) 2 op s = some s := fun f => by show lpOne cc n (lp cc n f) op s = some s; unfold lpOne; rw [if_pos h]
  have h3 : ∀ f, lp cc n (f + 1) 3 op s = some s := fun f => by show lpSl cc n (lp cc n f) op s = some s; unfold lpSl; rw [if_pos h]
  have h4 : ∀ f t, lp cc n (f + 1) (t + 4) op s = some s := fun f t => by show lpPl cc n (lp cc n f) op s = some s; unfold lpPl; rw [if_pos h]
  have h1 : ∀ f, lp cc n (f + 2) 1 op s = some s := fun f => by
    show (lp cc n (f + 1) 2 op s).bind _ = some s
    rw [h2 f]
    exact h4 f 0
  have h0 : ∀ f, lp cc n (f + 3) 0 op s = some s := fun f => by
    show (lp cc n (f + 2) 1 op s).bind _ = some s
    rw [h1 f]
    exact h3 (f + 1)
  match tag with
  | 0 => exact ⟨3, s, h0 0⟩
  | 1 => exact ⟨2, s, h1 0⟩
  | 2 => exact ⟨1, s, h2 0⟩
  | 3 => exact ⟨1, s, h3 0⟩
  | t + 4 => exact ⟨1, s, h4 0 t⟩
theorem LPx_bind {cc : Nat → Nat} {n t1 o1 t2 o2 : Nat} {s : LgS} {g : LgS → LgS} (h1 : LPx cc n t1 o1 s) (h2 : ∀ y, (∃ f, lp cc n f t1 o1 s = some y) → LPx cc n t2 o2 (g y)) : ∃ f r, (lp cc n f t1 o1 s).bind (fun y => lp cc n f t2 o2 (g y)) = some r := by
  obtain ⟨f1, y, e1⟩ := h1
  obtain ⟨f2, r, e2⟩ := h2 y ⟨f1, e1⟩
  refine ⟨max f1 f2, r, ?_⟩
  rw [lp_m e1 (Nat.le_max_left _ _)]
  exact lp_m e2 (Nat.le_max_right _ _)
theorem lp_ex {S : Sx} {cc : Nat → Nat} {n : Nat} (hT : TX S n cc) : ∀ (k : Nat) (s : LgS), PO n s.1 → n ≤ s.1.1 + k → ∀ op tag, LPx cc n tag op s := by
  have hn9 := hT.2.2.2 n (Nat.le_refl _)
  intro k
  induction k using Nat.strongRecOn with
  | _ k ih =>
    intro s hp hk
    by_cases q : s.1.2.1 = 0
    · have hbl := pbl_le cc hp.1
      have hbg := pbl_ge cc n s.1.1
      -- what lies further on
      have far : ∀ (s' : LgS), PO n s'.1 → (s'.1.2.1 = 0 → s.1.1 + 1 ≤ s'.1.1) → ∀ op tag, LPx cc n tag op s' := by
        intro s' hp' hlt op tag
        by_cases z : s'.1.2.1 = 0
        · have h1 := hlt z
          have h2 := hp'.1
          exact ih (n - s'.1.1) (by omega) s' hp' (by omega) op tag
        · exact LPx_no z
      have lt : ∀ (s' : LgS) f tag op y, PO n s'.1 → (s'.1.2.1 = 0 → s.1.1 + 1 ≤ s'.1.1) → lp cc n f tag op s' = some y → PO n y.1 ∧ (y.1.2.1 = 0 → s.1.1 + 1 ≤ y.1.1) := by
        intro s' f tag op y hp' hlt e
        have a := LT_lp hT f tag op s' y hp' e
        exact ⟨a.1, fun z => by have := a.2 z; have := hlt this.1; omega⟩
      have sg : ∀ (s' : LgS) c, c < 256 → PO n s'.1 → (s'.1.2.1 = 0 → s.1.1 + 1 ≤ s'.1.1) → PO n (lsg cc n c s').1 ∧ ((lsg cc n c s').1.2.1 = 0 → s.1.1 + 1 ≤ (lsg cc n c s').1.1) := by
        intro s' c hc hp' hlt
        have a := LT_sg hT (s := s') hp' hc
        exact ⟨a.1, fun z => by have := a.2 z; have := hlt this.1; omega⟩
      have t3 : ∀ op, LPx cc n 3 op s := by
        intro op
        cases hk : sg1 (cc (pbl cc n s.1.1)) with
        | none => exact ⟨1, _, by show lpSl cc n (lp cc n 0) op s = _; rw [lpSl_eq hn9 q hp.1, hk]⟩
        | some j =>
          have hlt : pbl cc n s.1.1 < n := Nat.lt_of_not_le (fun z => by rw [hT.2.2.2 _ z] at hk; cases hk)
          have p0 : PO n ((pbl cc n s.1.1 + 1, s.1.2) : PT) := ⟨hlt, hp.2⟩
          have l0 : s.1.2.1 = 0 → s.1.1 + 1 ≤ pbl cc n s.1.1 + 1 := fun _ => by omega
          obtain ⟨f, r, e⟩ := LPx_bind (t2 := 3) (o2 := op) (g := nt (2 + j) 0) (far ((pbl cc n s.1.1 + 1, s.1.2), s.2) p0 l0 op 1) (fun y hy => by
            obtain ⟨f, e⟩ := hy
            have a := lt _ f 1 op y p0 l0 e
            exact far (nt (2 + j) 0 y) a.1 a.2 op 3)
          exact ⟨f + 1, r, by show lpSl cc n (lp cc n f) op s = _; rw [lpSl_eq hn9 q hp.1, hk]; exact e⟩
      have t4 : ∀ op t, LPx cc n (t + 4) op s := by
        intro op t
        cases hk : sg2 (cc (pbl cc n s.1.1)) with
        | none => exact ⟨1, _, by show lpPl cc n (lp cc n 0) op s = _; rw [lpPl_eq hn9 q hp.1, hk]⟩
        | some j =>
          have hlt : pbl cc n s.1.1 < n := Nat.lt_of_not_le (fun z => by rw [hT.2.2.2 _ z] at hk; cases hk)
          have p0 : PO n ((pbl cc n s.1.1 + 1, s.1.2) : PT) := ⟨hlt, hp.2⟩
          have l0 : s.1.2.1 = 0 → s.1.1 + 1 ≤ pbl cc n s.1.1 + 1 := fun _ => by omega
          obtain ⟨f, r, e⟩ := LPx_bind (t2 := 4) (o2 := op) (g := nt (4 + j) 0) (far ((pbl cc n s.1.1 + 1, s.1.2), s.2) p0 l0 op 2) (fun y hy => by
            obtain ⟨f, e⟩ := hy
            have a := lt _ f 2 op y p0 l0 e
            exact far (nt (4 + j) 0 y) a.1 a.2 op 4)
          exact ⟨f + 1, r, by show lpPl cc n (lp cc n f) op s = _; rw [lpPl_eq hn9 q hp.1, hk]; exact e⟩
      have t2 : ∀ op, LPx cc n 2 op s := by
        intro op
        cases hk : wix cc n (pbl cc n s.1.1) wLM 7 with
        | some j =>
          by_cases o6 : op = 6
          · exact ⟨1, _, by show lpOne cc n (lp cc n 0) op s = _; unfold lpOne; rw [if_neg (fun z => z q), hk]; exact if_pos o6⟩
          · have h3 := wix_3 (by decide) hk
            have p0 : PO n ((pwe cc n (pbl cc n s.1.1), s.1.2) : PT) := ⟨pwe_le cc hbl, hp.2⟩
            have l0 : s.1.2.1 = 0 → s.1.1 + 1 ≤ pwe cc n (pbl cc n s.1.1) := fun _ => by omega
            have a1 := sg ((pwe cc n (pbl cc n s.1.1), s.1.2), s.2) 91 (by decide) p0 l0
            obtain ⟨f, r, e⟩ := LPx_bind (t2 := 0) (o2 := op + 1) (g := lsg cc n 44) (far _ a1.1 a1.2 (op + 1) 0) (fun y hy => by
              obtain ⟨f, e⟩ := hy
              have a := lt _ f 0 (op + 1) y a1.1 a1.2 e
              have a2 := sg y 44 (by decide) a.1 a.2
              exact far _ a2.1 a2.2 (op + 1) 0)
            obtain ⟨y, e1, e2⟩ := Option.bind_eq_some_iff.mp e
            exact ⟨f + 1, nt j 0 (lsg cc n 93 r), by
              show lpOne cc n (lp cc n f) op s = _
              unfold lpOne
              rw [if_neg (fun z => z q), hk]
              show (if op = 6 then _ else (lp cc n f 0 (op + 1) _).bind _) = _
              rw [if_neg o6, e1]
              show (lp cc n f 0 (op + 1) (lsg cc n 44 y)).bind _ = _
              rw [e2]
              rfl⟩
        | none =>
          by_cases h40 : cc (pbl cc n s.1.1) = 40
          · by_cases o6 : op = 6
            · exact ⟨1, _, by show lpOne cc n (lp cc n 0) op s = _; unfold lpOne; rw [if_neg (fun z => z q), hk]; show (if _ then (if op = 6 then _ else _) else _) = _; rw [if_pos h40, if_pos o6]⟩
            · have hlt : pbl cc n s.1.1 < n := cc_lt hT h40 (by decide)
              have p0 : PO n ((pbl cc n s.1.1 + 1, s.1.2) : PT) := ⟨hlt, hp.2⟩
              obtain ⟨f, r, e⟩ := far ((pbl cc n s.1.1 + 1, s.1.2), s.2) p0 (fun _ => by show s.1.1 + 1 ≤ pbl cc n s.1.1 + 1; omega) (op + 1) 0
              exact ⟨f + 1, lsg cc n 41 r, by
                show lpOne cc n (lp cc n f) op s = _
                unfold lpOne
                rw [if_neg (fun z => z q), hk]
                show (if _ then (if op = 6 then _ else (lp cc n f 0 (op + 1) _).bind _) else _) = _
                rw [if_pos h40, if_neg o6, e]
                rfl⟩
          · cases hj : wix cc n (pbl cc n s.1.1) wLaw 0 with
            | some j => exact ⟨1, _, by show lpOne cc n (lp cc n 0) op s = _; unfold lpOne; rw [if_neg (fun z => z q), hk]; show (if _ then _ else (match wix cc n (pbl cc n s.1.1) wLaw 0 with | some k => _ | none => _)) = _; rw [if_neg h40, hj]⟩
            | none => exact ⟨1, _, by show lpOne cc n (lp cc n 0) op s = _; unfold lpOne; rw [if_neg (fun z => z q), hk]; show (if _ then _ else (match wix cc n (pbl cc n s.1.1) wLaw 0 with | some k => _ | none => _)) = _; rw [if_neg h40, hj]⟩
      -- at the same place: the results lie no less far
      have same : ∀ (y : LgS), PO n y.1 → (y.1.2.1 = 0 → s.1.1 ≤ y.1.1) → (∀ op, LPx cc n 3 op y) ∧ ∀ op t, LPx cc n (t + 4) op y := by
        intro y hy hle
        by_cases z : y.1.2.1 = 0
        · by_cases e : y.1.1 = s.1.1
          · -- the same place: nothing but the items differs
            refine ⟨fun op => ?_, fun op t => ?_⟩
            · cases hk : sg1 (cc (pbl cc n y.1.1)) with
              | none => exact ⟨1, _, by show lpSl cc n (lp cc n 0) op y = _; rw [lpSl_eq hn9 z hy.1, hk]⟩
              | some j =>
                have hlt : pbl cc n y.1.1 < n := Nat.lt_of_not_le (fun w => by rw [hT.2.2.2 _ w] at hk; cases hk)
                have hyg := pbl_ge cc n y.1.1
                have p0 : PO n ((pbl cc n y.1.1 + 1, y.1.2) : PT) := ⟨hlt, hy.2⟩
                have l0 : y.1.2.1 = 0 → s.1.1 + 1 ≤ pbl cc n y.1.1 + 1 := fun _ => by omega
                obtain ⟨f, r, e⟩ := LPx_bind (t2 := 3) (o2 := op) (g := nt (2 + j) 0) (far ((pbl cc n y.1.1 + 1, y.1.2), y.2) p0 l0 op 1) (fun w hw => by
                  obtain ⟨f, e⟩ := hw
                  have a := lt _ f 1 op w p0 l0 e
                  exact far (nt (2 + j) 0 w) a.1 a.2 op 3)
                exact ⟨f + 1, r, by show lpSl cc n (lp cc n f) op y = _; rw [lpSl_eq hn9 z hy.1, hk]; exact e⟩
            · cases hk : sg2 (cc (pbl cc n y.1.1)) with
              | none => exact ⟨1, _, by show lpPl cc n (lp cc n 0) op y = _; rw [lpPl_eq hn9 z hy.1, hk]⟩
              | some j =>
                have hlt : pbl cc n y.1.1 < n := Nat.lt_of_not_le (fun w => by rw [hT.2.2.2 _ w] at hk; cases hk)
                have hyg := pbl_ge cc n y.1.1
                have p0 : PO n ((pbl cc n y.1.1 + 1, y.1.2) : PT) := ⟨hlt, hy.2⟩
                have l0 : y.1.2.1 = 0 → s.1.1 + 1 ≤ pbl cc n y.1.1 + 1 := fun _ => by omega
                obtain ⟨f, r, e⟩ := LPx_bind (t2 := 4) (o2 := op) (g := nt (4 + j) 0) (far ((pbl cc n y.1.1 + 1, y.1.2), y.2) p0 l0 op 2) (fun w hw => by
                  obtain ⟨f, e⟩ := hw
                  have a := lt _ f 2 op w p0 l0 e
                  exact far (nt (4 + j) 0 w) a.1 a.2 op 4)
                exact ⟨f + 1, r, by show lpPl cc n (lp cc n f) op y = _; rw [lpPl_eq hn9 z hy.1, hk]; exact e⟩
          · have := hle z
            exact ⟨fun op => far y hy (fun _ => by omega) op 3, fun op t => far y hy (fun _ => by omega) op (t + 4)⟩
        · exact ⟨fun op => LPx_no z, fun op t => LPx_no z⟩
      have t1 : ∀ op, LPx cc n 1 op s := by
        intro op
        obtain ⟨f, r, e⟩ := LPx_bind (t2 := 4) (o2 := op) (g := id) (t2 op) (fun y hy => by
          obtain ⟨f, e⟩ := hy
          have a := LT_lp hT f 2 op s y hp e
          exact (same y a.1 (fun z => (a.2 z).2.1)).2 op 0)
        exact ⟨f + 1, r, e⟩
      have t0 : ∀ op, LPx cc n 0 op s := by
        intro op
        obtain ⟨f, r, e⟩ := LPx_bind (t2 := 3) (o2 := op) (g := id) (t1 op) (fun y hy => by
          obtain ⟨f, e⟩ := hy
          have a := LT_lp hT f 1 op s y hp e
          exact (same y a.1 (fun z => (a.2 z).2.1)).1 op)
        exact ⟨f + 1, r, e⟩
      intro op tag
      match tag with
      | 0 => exact t0 op
      | 1 => exact t1 op
      | 2 => exact t2 op
      | 3 => exact t3 op
      | t + 4 => exact t4 op t
    · exact fun op tag => LPx_no q
