/-! ===== the first of the choices with most pairs; the model's search finds it ===== -/
def fsx (c : Nat → Bool) : Nat → Option Nat
  | 0 => none
  | n + 1 => match fsx c n with
    | some k => some k
    | none => if c n = true then some n else none
theorem fsx_n {c : Nat → Bool} : ∀ {n : Nat}, (∀ j, j < n → ¬ c j = true) → fsx c n = none
  | 0, _ => rfl
  | n + 1, h => by
    show (match fsx c n with | some k => some k | none => if c n = true then some n else none) = none
    rw [fsx_n (fun j hj => h j (by omega))]
    exact if_neg (h n (Nat.lt_succ_self n))
theorem fsx_s {c : Nat → Bool} : ∀ {n k : Nat}, k < n → c k = true → (∀ j, j < k → ¬ c j = true) → fsx c n = some k
  | 0, k, h, _, _ => absurd h (Nat.not_lt_zero k)
  | n + 1, k, h, hc, hn => by
    show (match fsx c n with | some k => some k | none => if c n = true then some n else none) = some k
    by_cases e : k = n
    · subst e
      rw [fsx_n hn]
      exact if_pos hc
    · rw [fsx_s (n := n) (by omega) hc hn]
theorem fsx_d {c : Nat → Bool} : ∀ (n : Nat), (∃ k, fsx c n = some k ∧ k < n ∧ c k = true ∧ ∀ j, j < k → ¬ c j = true) ∨ (fsx c n = none ∧ ∀ j, j < n → ¬ c j = true)
  | 0 => Or.inr ⟨rfl, fun j hj => absurd hj (Nat.not_lt_zero j)⟩
  | n + 1 => by
    rcases fsx_d (c := c) n with ⟨k, h1, h2, h3, h4⟩ | ⟨h1, h2⟩
    · exact Or.inl ⟨k, fsx_s (by omega) h3 h4, by omega, h3, h4⟩
    · by_cases e : c n = true
      · exact Or.inl ⟨n, fsx_s (by omega) e h2, by omega, e, h2⟩
      · have : ∀ j, j < n + 1 → ¬ c j = true := fun j hj => by
          by_cases z : j = n
          · subst z; exact e
          · exact h2 j (by omega)
        exact Or.inr ⟨fsx_n this, this⟩
abbrev uU (U : Nat → Bool) (r : Nat) : Nat → Bool := fun i => U i || decide (i = r)
def gcc (E : Nat → Nat → Bool) (n p : Nat) (U : Nat → Bool) (r : Nat) : Bool := E p r && !U r && decide (1 + mx E n (p + 1) (uU U r) = mx E (n + 1) p U)
def gch (E : Nat → Nat → Bool) (n p : Nat) (U : Nat → Bool) : Option Nat := fsx (gcc E n p U) 10
def gU (U : Nat → Bool) (x : Option Nat) : Nat → Bool := match x with
  | some r => uU U r
  | none => U
def lx (E : Nat → Nat → Bool) : Nat → Nat → (Nat → Bool) → Nat → Int32
  | 0, _, _ => fun _ => -1
  | n + 1, p, U => fun j => if j = p then ov (gch E n p U) else lx E n (p + 1) (gU U (gch E n p U)) j
theorem gcc_i {E : Nat → Nat → Bool} {n p : Nat} {U : Nat → Bool} {r : Nat} : gcc E n p U r = true ↔ (E p r = true ∧ ¬ U r = true) ∧ 1 + mx E n (p + 1) (uU U r) = mx E (n + 1) p U := by
  unfold gcc
  rw [Bool.and_eq_true, Bool.and_eq_true, decide_eq_true_iff]
  simp
theorem mx_0 (E : Nat → Nat → Bool) (n p : Nat) (U : Nat → Bool) : mx E n (p + 1) U ≤ mx E (n + 1) p U := mxr_b _ _ _ _
theorem mx_r {E : Nat → Nat → Bool} {n p : Nat} {U : Nat → Bool} {r : Nat} (hr : r < 10) (h : E p r = true ∧ ¬ U r = true) : 1 + mx E n (p + 1) (uU U r) ≤ mx E (n + 1) p U := mxr_v (c := fun r => E p r && !U r) (v := fun r => 1 + mx E n (p + 1) (uU U r)) hr (by simp [h])
theorem mx_l {E : Nat → Nat → Bool} {n p B : Nat} {U : Nat → Bool} (h0 : mx E n (p + 1) U ≤ B) (h : ∀ r, r < 10 → E p r = true ∧ ¬ U r = true → 1 + mx E n (p + 1) (uU U r) ≤ B) : mx E (n + 1) p U ≤ B := mxr_le h0 10 (fun r hr hc => h r hr (by simpa using hc))
theorem gch_n {E : Nat → Nat → Bool} {n p : Nat} {U : Nat → Bool} (h : gch E n p U = none) : mx E (n + 1) p U = mx E n (p + 1) U := by
  refine Nat.le_antisymm ?_ (mx_0 E n p U)
  rcases fsx_d (c := gcc E n p U) 10 with ⟨k, h1, _⟩ | ⟨_, h2⟩
  · rw [show fsx (gcc E n p U) 10 = none from h] at h1; cases h1
  · refine Classical.byContradiction (fun z => ?_)
    have : mx E (n + 1) p U ≤ mx E (n + 1) p U - 1 := mx_l (by omega) (fun r hr hv => by
      have l := mx_r (n := n) hr hv
      have ne : ¬ 1 + mx E n (p + 1) (uU U r) = mx E (n + 1) p U := fun y => h2 r hr (gcc_i.mpr ⟨hv, y⟩)
      omega)
    omega
theorem gch_s {E : Nat → Nat → Bool} {n p r : Nat} {U : Nat → Bool} (h : gch E n p U = some r) : r < 10 ∧ (E p r = true ∧ ¬ U r = true) ∧ 1 + mx E n (p + 1) (uU U r) = mx E (n + 1) p U := by
  rcases fsx_d (c := gcc E n p U) 10 with ⟨k, h1, h2, h3, _⟩ | ⟨h1, _⟩
  · rw [show fsx (gcc E n p U) 10 = some r from h] at h1
    cases h1
    exact ⟨h2, gcc_i.mp h3⟩
  · rw [show fsx (gcc E n p U) 10 = some r from h] at h1; cases h1
theorem lx_cn {E : Nat → Nat → Bool} : ∀ (n p : Nat) (U : Nat → Bool), cn (fun j => decide (lx E n p U (p + j) ≠ -1)) n = mx E n p U
  | 0, _, _ => rfl
  | n + 1, p, U => by
    have hs : ∀ (f : Nat → Bool) (m : Nat), cn f (m + 1) = b2 (f 0) + cn (fun j => f (j + 1)) m := by
      intro f m
      induction m with
      | zero => show 0 + b2 (f 0) = b2 (f 0) + 0; omega
      | succ m ih =>
        show cn f (m + 1) + b2 (f (m + 1)) = b2 (f 0) + (cn (fun j => f (j + 1)) m + b2 (f (m + 1)))
        omega
    rw [hs]
    have e1 : cn (fun j => decide (lx E (n + 1) p U (p + (j + 1)) ≠ -1)) n = mx E n (p + 1) (gU U (gch E n p U)) := by
      rw [← lx_cn n (p + 1) (gU U (gch E n p U))]
      refine cn_congr (fun j _ => ?_)
      show decide ((if p + (j + 1) = p then _ else lx E n (p + 1) (gU U (gch E n p U)) (p + (j + 1))) ≠ -1) = _
      rw [if_neg (by omega), show p + (j + 1) = p + 1 + j by omega]
    have e0 : (decide (lx E (n + 1) p U (p + 0) ≠ -1)) = decide (ov (gch E n p U) ≠ -1) := by
      show decide ((if p + 0 = p then ov (gch E n p U) else _) ≠ -1) = _
      rw [if_pos (Nat.add_zero p)]
    rw [e1, e0]
    cases h : gch E n p U with
    | none =>
      rw [gch_n h]
      show b2 (decide ((-1 : Int32) ≠ -1)) + mx E n (p + 1) U = _
      rw [b2_f (by decide)]
      omega
    | some r =>
      obtain ⟨h1, h2, h3⟩ := gch_s h
      show b2 (decide (nI r ≠ -1)) + mx E n (p + 1) (uU U r) = _
      rw [b2_t (decide_eq_true (nI_nm (by omega))), h3]
theorem bit_b (x : Int32) {r : Nat} (hr : r < 32) : bit x (ix r) = bt x r := by
  have h := bit_iff x (ix r)
  rw [ix_nI, bt_t x hr] at h
  rw [ix_nI]
  cases e : bt x r with
  | true => rw [e] at h; exact h.mpr rfl
  | false =>
    rw [e] at h
    cases e2 : bit x (nI r) with
    | false => rfl
    | true => exact absurd (h.mp e2) (by decide)
theorem le_k {a k : Nat} (ha : a < 1000) (hk : k < 1000) : nI a ≤ nI k - 1 ↔ a < k := by
  rw [lt_s1 hk]
  exact ⟨fun h => Classical.byContradiction (fun z => absurd h (nI_nlt (by omega) (by omega))), fun h => nI_lt h (by omega)⟩
def kN (al : Nat → Int32) : Nat → Nat → Nat
  | 0, _ => 0
  | n + 1, p => kN al n (p + 1) + (if al p = 0 then 0 else 1)
theorem kN_cu {al : Nat → Int32} {np : Nat} : ∀ (n p : Nat), p + n = np → cuJ al np n = nI (kN al n p)
  | 0, _, _ => rfl
  | n + 1, p, h => by
    show cuJ al np n + (if al (np - 1 - n) = 0 then 0 else 1) = nI (kN al n (p + 1) + (if al p = 0 then 0 else 1))
    rw [kN_cu n (p + 1) (by omega), show np - 1 - n = p by omega]
    split
    · rw [Nat.add_zero]; exact Int32.add_zero _
    · exact nI_1 _
theorem kN_le (al : Nat → Int32) : ∀ (n p : Nat), kN al n p ≤ n
  | 0, _ => Nat.le_refl 0
  | n + 1, p => by
    have := kN_le al n (p + 1)
    show kN al n (p + 1) + (if al p = 0 then 0 else 1) ≤ n + 1
    split <;> omega
theorem mx_kN {al : Nat → Int32} {E : Nat → Nat → Bool} (hE : ∀ p r, r < 10 → E p r = bt (al p) r) : ∀ (n p : Nat) (U : Nat → Bool), mx E n p U ≤ kN al n p
  | 0, _, _ => Nat.le_refl 0
  | n + 1, p, U => by
    show _ ≤ kN al n (p + 1) + (if al p = 0 then 0 else 1)
    refine mx_l (Nat.le_trans (mx_kN hE n (p + 1) U) (Nat.le_add_right _ _)) (fun r hr hv => ?_)
    have := mx_kN hE n (p + 1) (uU U r)
    rw [if_neg (fun z => by
      have e := hv.1
      rw [hE p r hr, z] at e
      have b0 : ∀ r, r < 10 → bt 0 r = false := by decide
      rw [b0 r hr] at e
      cases e)]
    omega
theorem mx_len (E : Nat → Nat → Bool) : ∀ (n p : Nat) (U : Nat → Bool), mx E n p U ≤ n
  | 0, _, _ => Nat.le_refl 0
  | n + 1, p, U => mx_l (Nat.le_trans (mx_len E n (p + 1) U) (Nat.le_succ n)) (fun r _ _ => by have := mx_len E n (p + 1) (uU U r); omega)
/-- what the search comes to, from a best of k - 1 -/
def MFO (E : Nat → Nat → Bool) (n p gv k : Nat) (U : Nat → Bool) (s s' : MS) : Prop := (∀ j, j < p → s'.1 j = s.1 j) ∧ ((gv + mx E n p U < k → s'.2 = s.2) ∧ (¬ gv + mx E n p U < k → s'.2.2 = nI (gv + mx E n p U) ∧ (∀ j, j < p → s'.2.1 j = s.1 j) ∧ ∀ j, p ≤ j → j < p + n → s'.2.1 j = lx E n p U j))
theorem mfr_ok {al : Nat → Int32} {E : Nat → Nat → Bool} {nr np : Nat} (hnr : nr ≤ 10) (hE : ∀ p r, r < 10 → E p r = bt (al p) r) (hE2 : ∀ p r, nr ≤ r → ¬ E p r = true) : ∀ (n p : Nat) (tk : Int32) (gv k : Nat) (U : Nat → Bool) (s : MS), p + n = np → np ≤ 8 → gv ≤ p → k ≤ 100 → (∀ r, r < 10 → bt tk r = U r) → s.2.2 = nI k - 1 → MFO E n p gv k U s (mfr al (fun p => cuJ al np (np - p)) nr n p tk (nI gv) s) := by
  intro n
  induction n with
  | zero =>
    intro p tk gv k U s hp h8 hg hk hU hs
    have hc : cuJ al np (np - p) = 0 := by rw [show np - p = 0 by omega]; rfl
    show MFO E 0 p gv k U s (if nI gv + cuJ al np (np - p) ≤ s.2.2 then s else (s.1, bcp s.1 s.2.1 p, nI gv))
    rw [hc, Int32.add_zero, hs]
    have hle := le_k (a := gv) (k := k) (by omega) (by omega)
    by_cases q : gv < k
    · rw [if_pos (hle.mpr q)]
      exact ⟨fun _ _ => rfl, fun _ => rfl, fun z => absurd q z⟩
    · rw [if_neg (fun z => q (hle.mp z))]
      refine ⟨fun _ _ => rfl, fun z => absurd z q, fun _ => ⟨rfl, fun j hj => if_pos hj, fun j h1 h2 => absurd h2 (by omega)⟩⟩
  | succ n ih =>
    intro p tk gv k U s hp h8 hg hk hU hs
    have hcu : cuJ al np (np - p) = nI (kN al (n + 1) p) := by rw [show np - p = n + 1 by omega]; exact kN_cu (n + 1) p hp
    have hkn := kN_le al (n + 1) p
    have hmk := mx_kN hE (n + 1) p U
    have hM := mx_len E (n + 1) p U
    obtain ⟨f, hf⟩ : ∃ f : Nat → MS → MS, f = fun r s => if bit tk (ix r) = true then s else if bit (al p) (ix r) = true then mfr al (fun p => cuJ al np (np - p)) nr n (p + 1) (tk ||| (1 <<< (ix r &&& 31))) (nI gv + 1) (upd s.1 p (ix r), s.2) else s := ⟨_, rfl⟩
    have hm : mfr al (fun p => cuJ al np (np - p)) nr (n + 1) p tk (nI gv) s = if nI gv + cuJ al np (np - p) ≤ s.2.2 then s else mfr al (fun p => cuJ al np (np - p)) nr n (p + 1) tk (nI gv) (upd (mlo f nr s).1 p (-1), (mlo f nr s).2) := by rw [hf]; rfl
    rw [hm, hcu, nI_add, hs]
    have hle := le_k (a := gv + kN al (n + 1) p) (k := k) (by omega) (by omega)
    by_cases q : gv + kN al (n + 1) p < k
    · rw [if_pos (hle.mpr q)]
      exact ⟨fun _ _ => rfl, fun _ => rfl, fun z => absurd (show gv + mx E (n + 1) p U < k by omega) z⟩
    · rw [if_neg (fun z => q (hle.mp z))]
      have stepf : ∀ i (s1 : MS) (k1 : Nat), i < 10 → k1 ≤ 100 → s1.2.2 = nI k1 - 1 → (E p i = true ∧ ¬ U i = true) → MFO E n (p + 1) (gv + 1) k1 (uU U i) (upd s1.1 p (ix i), s1.2) (f i s1) := by
        intro i s1 k1 hi hk1 hs1 hv
        have b1 : ¬ bit tk (ix i) = true := by rw [bit_b tk (by omega), hU i hi]; exact hv.2
        have b2' : bit (al p) (ix i) = true := by rw [bit_b _ (by omega), ← hE p i hi]; exact hv.1
        rw [hf]
        show MFO E n (p + 1) (gv + 1) k1 (uU U i) (upd s1.1 p (ix i), s1.2) (if bit tk (ix i) = true then s1 else if bit (al p) (ix i) = true then _ else s1)
        rw [if_neg b1, if_pos b2', nI_1]
        refine ih (p + 1) _ (gv + 1) k1 (uU U i) (upd s1.1 p (ix i), s1.2) (by omega) h8 (by omega) hk1 (fun r hr => ?_) hs1
        rw [bt_or, hU r hr, ix_nI, bt_1 (by omega)]
        show (U r || decide (i = r)) = (U r || decide (r = i))
        rw [show decide (i = r) = decide (r = i) from decide_eq_decide.mpr ⟨Eq.symm, Eq.symm⟩]
      have nof : ∀ i (s1 : MS), i < 10 → ¬ (E p i = true ∧ ¬ U i = true) → f i s1 = s1 := by
        intro i s1 hi hv
        rw [hf]
        show (if bit tk (ix i) = true then s1 else if bit (al p) (ix i) = true then _ else s1) = s1
        rw [bit_b tk (by omega), bit_b (al p) (by omega), hU i hi, ← hE p i hi]
        by_cases z : U i = true
        · rw [if_pos z]
        · rw [if_neg z, if_neg (fun y => hv ⟨y, z⟩)]
      have loop : ∀ i, i ≤ nr → (∀ j, j < p → (mlo f i s).1 j = s.1 j) ∧ (((∀ r, r < i → E p r = true ∧ ¬ U r = true → gv + 1 + mx E n (p + 1) (uU U r) < k) ∧ (mlo f i s).2 = s.2) ∨
          ∃ r0, r0 < i ∧ (E p r0 = true ∧ ¬ U r0 = true) ∧ ¬ gv + 1 + mx E n (p + 1) (uU U r0) < k ∧ (∀ r, r < i → E p r = true ∧ ¬ U r = true → mx E n (p + 1) (uU U r) ≤ mx E n (p + 1) (uU U r0)) ∧ (∀ r, r < r0 → E p r = true ∧ ¬ U r = true → mx E n (p + 1) (uU U r) < mx E n (p + 1) (uU U r0)) ∧ (mlo f i s).2.2 = nI (gv + 1 + mx E n (p + 1) (uU U r0)) ∧ (∀ j, j < p → (mlo f i s).2.1 j = s.1 j) ∧ (mlo f i s).2.1 p = nI r0 ∧ ∀ j, p + 1 ≤ j → j < p + 1 + n → (mlo f i s).2.1 j = lx E n (p + 1) (uU U r0) j) := by
        intro i
        induction i with
        | zero => exact fun _ => ⟨fun _ _ => rfl, Or.inl ⟨fun r hr => absurd hr (Nat.not_lt_zero r), rfl⟩⟩
        | succ i li =>
          intro hi
          obtain ⟨l1, l2⟩ := li (by omega)
          show (∀ j, j < p → (f i (mlo f i s)).1 j = s.1 j) ∧ _
          rw [show mlo f (i + 1) s = f i (mlo f i s) from rfl]
          by_cases hv : E p i = true ∧ ¬ U i = true
          · have hmi := mx_len E n (p + 1) (uU U i)
            rcases l2 with ⟨a1, a2⟩ | ⟨r0, c1, c2, c3, c4, c5, c6, c7, c8, c9⟩
            · obtain ⟨m1, m2, m3⟩ := stepf i (mlo f i s) k (by omega) hk (by rw [a2]; exact hs) hv
              refine ⟨fun j hj => (m1 j (by omega)).trans ((pk_un (by omega)).trans (l1 j hj)), ?_⟩
              by_cases z : gv + 1 + mx E n (p + 1) (uU U i) < k
              · refine Or.inl ⟨fun r hr hvr => ?_, (m2 z).trans a2⟩
                by_cases e : r = i
                · subst e; exact z
                · exact a1 r (by omega) hvr
              · obtain ⟨n1, n2, n3⟩ := m3 z
                refine Or.inr ⟨i, by omega, hv, z, fun r hr hvr => ?_, fun r hr hvr => ?_, n1, fun j hj => (n2 j (by omega)).trans ((pk_un (by omega)).trans (l1 j hj)), (n2 p (by omega)).trans (pk_us.trans (ix_nI i)), n3⟩
                · by_cases e : r = i
                  · subst e; exact Nat.le_refl _
                  · have := a1 r (by omega) hvr; omega
                · have := a1 r (by omega) hvr; omega
            · have hm0 := mx_len E n (p + 1) (uU U r0)
              obtain ⟨m1, m2, m3⟩ := stepf i (mlo f i s) (gv + 1 + mx E n (p + 1) (uU U r0) + 1) (by omega) (by omega) (by rw [c6, ← nI_1, Int32.add_sub_cancel]) hv
              refine ⟨fun j hj => (m1 j (by omega)).trans ((pk_un (by omega)).trans (l1 j hj)), Or.inr ?_⟩
              by_cases z : gv + 1 + mx E n (p + 1) (uU U i) < gv + 1 + mx E n (p + 1) (uU U r0) + 1
              · have e2 := m2 z
                have e2 : (f i (mlo f i s)).2 = (mlo f i s).2 := e2
                rw [e2]
                refine ⟨r0, by omega, c2, c3, fun r hr hvr => ?_, c5, c6, c7, c8, c9⟩
                by_cases e : r = i
                · subst e; omega
                · exact c4 r (by omega) hvr
              · obtain ⟨n1, n2, n3⟩ := m3 z
                refine ⟨i, by omega, hv, by omega, fun r hr hvr => ?_, fun r hr hvr => ?_, n1, fun j hj => (n2 j (by omega)).trans ((pk_un (by omega)).trans (l1 j hj)), (n2 p (by omega)).trans (pk_us.trans (ix_nI i)), n3⟩
                · by_cases e : r = i
                  · subst e; exact Nat.le_refl _
                  · have := c4 r (by omega) hvr; omega
                · have := c4 r (by omega) hvr; omega
          · rw [nof i _ (by omega) hv]
            refine ⟨l1, ?_⟩
            rcases l2 with ⟨a1, a2⟩ | ⟨r0, c1, c2, c3, c4, c5, c6⟩
            · refine Or.inl ⟨fun r hr hvr => ?_, a2⟩
              by_cases e : r = i
              · subst e; exact absurd hvr hv
              · exact a1 r (by omega) hvr
            · refine Or.inr ⟨r0, by omega, c2, c3, fun r hr hvr => ?_, c5, c6⟩
              by_cases e : r = i
              · subst e; exact absurd hvr hv
              · exact c4 r (by omega) hvr
      obtain ⟨l1, l2⟩ := loop nr (Nat.le_refl _)
      have hm0 := mx_len E n (p + 1) U
      have hnr2 : ∀ r, r < 10 → E p r = true ∧ ¬ U r = true → r < nr := fun r _ hv => Nat.lt_of_not_le (fun z => hE2 p r z hv.1)
      have hmx0 := mx_0 E n p U
      rcases l2 with ⟨a1, a2⟩ | ⟨r0, c1, c2, c3, c4, c5, c6, c7, c8, c9⟩
      · obtain ⟨m1, m2, m3⟩ := ih (p + 1) tk gv k U (upd (mlo f nr s).1 p (-1), (mlo f nr s).2) (by omega) h8 (by omega) hk hU (by show (mlo f nr s).2.2 = _; rw [a2]; exact hs)
        refine ⟨fun j hj => (m1 j (by omega)).trans ((pk_un (by omega)).trans (l1 j hj)), fun z => ?_, fun z => ?_⟩
        · exact (m2 (by omega)).trans a2
        · have z0 : ¬ gv + mx E n (p + 1) U < k := fun y => z (by
            have : mx E (n + 1) p U ≤ k - 1 - gv := mx_l (by omega) (fun r hr hv => by have := a1 r (hnr2 r hr hv) hv; omega)
            omega)
          have eM : mx E (n + 1) p U = mx E n (p + 1) U := Nat.le_antisymm (mx_l (Nat.le_refl _) (fun r hr hv => by have := a1 r (hnr2 r hr hv) hv; omega)) hmx0
          have eg : gch E n p U = none := fsx_n (fun r hr hc => by
            obtain ⟨hv, he⟩ := gcc_i.mp hc
            have := a1 r (hnr2 r hr hv) hv
            omega)
          obtain ⟨n1, n2, n3⟩ := m3 z0
          rw [eM]
          refine ⟨n1, fun j hj => (n2 j (by omega)).trans ((pk_un (by omega)).trans (l1 j hj)), fun j h1 h2 => ?_⟩
          show _ = (if j = p then ov (gch E n p U) else lx E n (p + 1) (gU U (gch E n p U)) j)
          rw [eg]
          by_cases e : j = p
          · subst e
            rw [if_pos rfl]
            exact (n2 j (by omega)).trans pk_us
          · rw [if_neg e]
            exact n3 j (by omega) (by omega)
      · have hm1 := mx_len E n (p + 1) (uU U r0)
        obtain ⟨m1, m2, m3⟩ := ih (p + 1) tk gv (gv + 1 + mx E n (p + 1) (uU U r0) + 1) U (upd (mlo f nr s).1 p (-1), (mlo f nr s).2) (by omega) h8 (by omega) (by omega) hU (by show (mlo f nr s).2.2 = _; rw [c6, ← nI_1, Int32.add_sub_cancel])
        have hr0 := mx_r (n := n) (show r0 < 10 by omega) c2
        refine ⟨fun j hj => (m1 j (by omega)).trans ((pk_un (by omega)).trans (l1 j hj)), fun z => absurd z (by omega), fun _ => ?_⟩
        by_cases y : gv + mx E n (p + 1) U < gv + 1 + mx E n (p + 1) (uU U r0) + 1
        · have eM : mx E (n + 1) p U = 1 + mx E n (p + 1) (uU U r0) := Nat.le_antisymm (mx_l (by omega) (fun r hr hv => by have := c4 r (hnr2 r hr hv) hv; omega)) hr0
          have eg : gch E n p U = some r0 := fsx_s (by omega) (gcc_i.mpr ⟨c2, eM.symm⟩) (fun r hr hc => by
            obtain ⟨hv, he⟩ := gcc_i.mp hc
            have := c5 r hr hv
            omega)
          have e2 : (mfr al (fun p => cuJ al np (np - p)) nr n (p + 1) tk (nI gv) (upd (mlo f nr s).1 p (-1), (mlo f nr s).2)).2 = (mlo f nr s).2 := m2 y
          rw [e2, eM]
          refine ⟨by rw [c6, Nat.add_assoc], c7, fun j h1 h2 => ?_⟩
          show _ = (if j = p then ov (gch E n p U) else lx E n (p + 1) (gU U (gch E n p U)) j)
          rw [eg]
          by_cases e : j = p
          · subst e
            rw [if_pos rfl]
            exact c8
          · rw [if_neg e]
            exact c9 j (by omega) (by omega)
        · have eM : mx E (n + 1) p U = mx E n (p + 1) U := Nat.le_antisymm (mx_l (Nat.le_refl _) (fun r hr hv => by have := c4 r (hnr2 r hr hv) hv; omega)) hmx0
          have eg : gch E n p U = none := fsx_n (fun r hr hc => by
            obtain ⟨hv, he⟩ := gcc_i.mp hc
            have := c4 r (hnr2 r hr hv) hv
            omega)
          obtain ⟨n1, n2, n3⟩ := m3 y
          rw [eM]
          refine ⟨n1, fun j hj => (n2 j (by omega)).trans ((pk_un (by omega)).trans (l1 j hj)), fun j h1 h2 => ?_⟩
          show _ = (if j = p then ov (gch E n p U) else lx E n (p + 1) (gU U (gch E n p U)) j)
          rw [eg]
          by_cases e : j = p
          · subst e
            rw [if_pos rfl]
            exact (n2 j (by omega)).trans pk_us
          · rw [if_neg e]
            exact n3 j (by omega) (by omega)
