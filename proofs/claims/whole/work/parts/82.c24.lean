/-! ===== most pairs: augmenting ways find them ===== -/
def b2 (b : Bool) : Nat := if b = true then 1 else 0
def cn (p : Nat → Bool) : Nat → Nat
  | 0 => 0
  | n + 1 => cn p n + b2 (p n)
theorem b2_le (b : Bool) : b2 b ≤ 1 := by cases b <;> decide
theorem b2_t {b : Bool} (h : b = true) : b2 b = 1 := by rw [h]; rfl
theorem b2_f {b : Bool} (h : ¬ b = true) : b2 b = 0 := by cases b with | true => exact absurd rfl h | false => rfl
theorem cn_congr {p q : Nat → Bool} : ∀ {n : Nat}, (∀ i, i < n → p i = q i) → cn p n = cn q n
  | 0, _ => rfl
  | n + 1, h => by
    show cn p n + b2 (p n) = cn q n + b2 (q n)
    rw [cn_congr (fun i hi => h i (Nat.lt_succ_of_lt hi)), h n (Nat.lt_succ_self n)]
theorem cn_mono {p q : Nat → Bool} : ∀ {n : Nat}, (∀ i, i < n → p i = true → q i = true) → cn p n ≤ cn q n
  | 0, _ => Nat.le_refl _
  | n + 1, h => by
    have h1 := cn_mono (fun i hi => h i (Nat.lt_succ_of_lt hi))
    have h2 : b2 (p n) ≤ b2 (q n) := by
      by_cases e : p n = true
      · rw [b2_t e, b2_t (h n (Nat.lt_succ_self n) e)]; exact Nat.le_refl 1
      · rw [b2_f e]; exact Nat.zero_le _
    show cn p n + b2 (p n) ≤ cn q n + b2 (q n)
    omega
theorem cn_up {p q : Nat → Bool} {r : Nat} : ∀ {n : Nat}, r < n → (∀ i, i < n → i ≠ r → q i = p i) → cn q n + b2 (p r) = cn p n + b2 (q r)
  | 0, hr, _ => absurd hr (Nat.not_lt_zero r)
  | n + 1, hr, h => by
    show cn q n + b2 (q n) + b2 (p r) = cn p n + b2 (p n) + b2 (q r)
    by_cases e : r = n
    · subst e
      rw [cn_congr (p := q) (q := p) (fun i hi => h i (Nat.lt_succ_of_lt hi) (by omega))]
      omega
    · have := cn_up (p := p) (q := q) (r := r) (n := n) (by omega) (fun i hi => h i (Nat.lt_succ_of_lt hi))
      rw [h n (Nat.lt_succ_self n) (fun z => e z.symm)]
      omega
theorem cn_pos {p : Nat → Bool} : ∀ {n r : Nat}, r < n → p r = true → 1 ≤ cn p n
  | 0, r, hr, _ => absurd hr (Nat.not_lt_zero r)
  | n + 1, r, hr, h => by
    show 1 ≤ cn p n + b2 (p n)
    by_cases e : r = n
    · subst e; rw [b2_t h]; omega
    · have := cn_pos (p := p) (n := n) (r := r) (by omega) h; omega
theorem cn_ex {p : Nat → Bool} : ∀ {n : Nat}, cn p n ≠ 0 → ∃ r, r < n ∧ p r = true
  | 0, h => absurd rfl h
  | n + 1, h => by
    by_cases e : p n = true
    · exact ⟨n, Nat.lt_succ_self n, e⟩
    · have h : cn p n + b2 (p n) ≠ 0 := h
      rw [b2_f e] at h
      obtain ⟨r, h1, h2⟩ := cn_ex (p := p) (n := n) (by omega)
      exact ⟨r, Nat.lt_succ_of_lt h1, h2⟩
theorem cn_0 {p : Nat → Bool} {n : Nat} (h : ∀ r, r < n → ¬ p r = true) : cn p n = 0 := by
  refine Classical.byContradiction (fun z => ?_)
  obtain ⟨r, h1, h2⟩ := cn_ex z
  exact h r h1 h2
theorem cn_add {p a b : Nat → Bool} : ∀ {n : Nat}, (∀ i, i < n → p i = true → a i = true ∨ b i = true) → cn p n ≤ cn a n + cn b n
  | 0, _ => Nat.le_refl _
  | n + 1, h => by
    have h1 := cn_add (fun i hi => h i (Nat.lt_succ_of_lt hi))
    have h2 : b2 (p n) ≤ b2 (a n) + b2 (b n) := by
      by_cases e : p n = true
      · rcases h n (Nat.lt_succ_self n) e with z | z
        · rw [b2_t e, b2_t z]; omega
        · rw [b2_t e, b2_t z]; omega
      · rw [b2_f e]; exact Nat.zero_le _
    show cn p n + b2 (p n) ≤ cn a n + b2 (a n) + (cn b n + b2 (b n))
    omega
theorem cn_sub {p a b : Nat → Bool} : ∀ {n : Nat}, (∀ i, i < n → (a i = true → p i = true) ∧ (b i = true → p i = true) ∧ ¬ (a i = true ∧ b i = true)) → cn a n + cn b n ≤ cn p n
  | 0, _ => Nat.le_refl _
  | n + 1, h => by
    have h1 := cn_sub (fun i hi => h i (Nat.lt_succ_of_lt hi))
    have h2 : b2 (a n) + b2 (b n) ≤ b2 (p n) := by
      obtain ⟨z1, z2, z3⟩ := h n (Nat.lt_succ_self n)
      by_cases e : a n = true
      · rw [b2_t e, b2_f (fun y => z3 ⟨e, y⟩), b2_t (z1 e)]
        exact Nat.le_refl 1
      · rw [b2_f e]
        by_cases e2 : b n = true
        · rw [b2_t e2, b2_t (z2 e2)]
          exact Nat.le_refl 1
        · rw [b2_f e2]; exact Nat.zero_le _
    show cn a n + b2 (a n) + (cn b n + b2 (b n)) ≤ cn p n + b2 (p n)
    omega
theorem cn_inj {A : Nat → Bool} {g : Nat → Nat} {m : Nat} : ∀ (n : Nat) (B : Nat → Bool), (∀ r, r < n → A r = true → g r < m ∧ B (g r) = true) → (∀ r r', r < n → r' < n → A r = true → A r' = true → g r = g r' → r = r') → cn A n ≤ cn B m
  | 0, _, _, _ => Nat.zero_le _
  | n + 1, B, h1, h2 => by
    show cn A n + b2 (A n) ≤ cn B m
    by_cases e : A n = true
    · obtain ⟨g1, g2⟩ := h1 n (Nat.lt_succ_self n) e
      have hu := cn_up (p := B) (q := fun i => B i && !decide (i = g n)) (r := g n) g1 (fun i _ hi => by rw [decide_eq_false hi]; simp)
      rw [b2_t g2, b2_f (by simp)] at hu
      have := cn_inj n (fun i => B i && !decide (i = g n)) (fun r hr hA => ⟨(h1 r (by omega) hA).1, by
        have hne : g r ≠ g n := fun z => absurd (h2 r n (by omega) (by omega) hA e z) (by omega)
        rw [(h1 r (by omega) hA).2, decide_eq_false hne]; rfl⟩) (fun r r' hr hr' => h2 r r' (by omega) (by omega))
      rw [b2_t e]
      omega
    · rw [b2_f e]
      exact cn_inj n B (fun r hr => h1 r (by omega)) (fun r r' hr hr' => h2 r r' (by omega) (by omega))
/-! the search -/
abbrev PSt : Type := (Nat → Option Nat) × (Nat → Bool)
def flp (rec : Nat → PSt → Bool × PSt) (E : Nat → Bool) (p : Nat) : Nat → Nat → PSt → Bool × PSt
  | 0, _, s => (false, s)
  | m + 1, r, s => if E r = true ∧ ¬ s.2 r = true then (match s.1 r with
      | none => (true, (updO s.1 r (some p), fun i => s.2 i || decide (i = r)))
      | some q => if (rec q (s.1, fun i => s.2 i || decide (i = r))).1 = true then (true, (updO (rec q (s.1, fun i => s.2 i || decide (i = r))).2.1 r (some p), (rec q (s.1, fun i => s.2 i || decide (i = r))).2.2)) else flp rec E p m (r + 1) (rec q (s.1, fun i => s.2 i || decide (i = r))).2) else flp rec E p m (r + 1) s
def fnd8 (E : Nat → Nat → Bool) : Nat → Nat → PSt → Bool × PSt
  | 0, _, s => (false, s)
  | k + 1, p, s => flp (fnd8 E k) (E p) p 10 0 s
def mm (t : Nat → Option Nat) : Nat := cn (fun r => (t r).isSome) 10
def cx (t : Nat → Option Nat) (x : Nat) : Nat := cn (fun r => decide (t r = some x)) 10
def um8 (s : PSt) : Nat := cn (fun r => !s.2 r && (s.1 r).isSome) 10
def SU (E : Nat → Nat → Bool) (p : Nat) (s s' : PSt) : Prop := mm s'.1 = mm s.1 + 1 ∧ (∀ x, cx s'.1 x = cx s.1 x + b2 (decide (x = p))) ∧ (∀ r, s.2 r = true → s'.1 r = s.1 r) ∧ ∀ r x, s'.1 r = some x → s.1 r = some x ∨ E x r = true
def FA (E : Nat → Nat → Bool) (p : Nat) (s s' : PSt) : Prop := s'.1 = s.1 ∧ (∀ r, s.2 r = true → s'.2 r = true) ∧ (∀ r, r < 10 → E p r = true → s'.2 r = true) ∧ ∀ r, r < 10 → s'.2 r = true → ¬ s.2 r = true → ∃ q, s.1 r = some q ∧ ∀ r', r' < 10 → E q r' = true → s'.2 r' = true
theorem updO_s (t : Nat → Option Nat) (r : Nat) (v : Option Nat) : updO t r v r = v := if_pos rfl
theorem updO_n {t : Nat → Option Nat} {r i : Nat} {v : Option Nat} (h : i ≠ r) : updO t r v i = t i := if_neg h
theorem mm_up {t : Nat → Option Nat} {r : Nat} {v : Option Nat} (hr : r < 10) : mm (updO t r v) + b2 (t r).isSome = mm t + b2 v.isSome := by
  have := cn_up (p := fun r => (t r).isSome) (q := fun i => (updO t r v i).isSome) (r := r) hr (fun i _ hi => by show (updO t r v i).isSome = _; rw [updO_n hi])
  rw [show (updO t r v r) = v from updO_s t r v] at this
  exact this
theorem cx_up {t : Nat → Option Nat} {r : Nat} {v : Option Nat} (hr : r < 10) (x : Nat) : cx (updO t r v) x + b2 (decide (t r = some x)) = cx t x + b2 (decide (v = some x)) := by
  have := cn_up (p := fun r => decide (t r = some x)) (q := fun i => decide (updO t r v i = some x)) (r := r) hr (fun i _ hi => by show decide (updO t r v i = some x) = _; rw [updO_n hi])
  rw [show (updO t r v r) = v from updO_s t r v] at this
  exact this
theorem dsx (q x : Nat) : decide ((some q : Option Nat) = some x) = decide (x = q) := by
  by_cases h : x = q
  · subst h; simp
  · rw [decide_eq_false h, decide_eq_false (fun z => h (by cases z; rfl))]
theorem dnx (x : Nat) : decide ((none : Option Nat) = some x) = false := by simp
theorem flp_ok {E : Nat → Nat → Bool} {p k : Nat} (hrec : ∀ q s, um8 s < k → ((fnd8 E k q s).1 = true → SU E q s (fnd8 E k q s).2) ∧ (¬ (fnd8 E k q s).1 = true → FA E q s (fnd8 E k q s).2)) (s0 : PSt) (hk : um8 s0 < k + 1) : ∀ (m r : Nat) (s : PSt), r + m = 10 → s.1 = s0.1 → (∀ i, s0.2 i = true → s.2 i = true) →
    ((flp (fnd8 E k) (E p) p m r s).1 = true → SU E p s0 (flp (fnd8 E k) (E p) p m r s).2) ∧
    (¬ (flp (fnd8 E k) (E p) p m r s).1 = true → (∀ i, i < r → E p i = true → s.2 i = true) → (∀ i, i < 10 → s.2 i = true → ¬ s0.2 i = true → ∃ q, s0.1 i = some q ∧ ∀ r', r' < 10 → E q r' = true → s.2 r' = true) → FA E p s0 (flp (fnd8 E k) (E p) p m r s).2) := by
  intro m
  induction m with
  | zero =>
    intro r s hr h1 h2
    refine ⟨fun z => absurd z Bool.false_ne_true, fun _ h3 h4 => ⟨h1, h2, fun i hi => h3 i (by omega), h4⟩⟩
  | succ m ih =>
    intro r s hr h1 h2
    have hr10 : r < 10 := by omega
    by_cases c : E p r = true ∧ ¬ s.2 r = true
    · have hmono : ∀ i, s.2 i = true → (fun i => s.2 i || decide (i = r)) i = true := fun i hi => by show (s.2 i || decide (i = r)) = true; rw [hi]; rfl
      have hat : (fun i => s.2 i || decide (i = r)) r = true := by show (s.2 r || decide (r = r)) = true; simp
      cases ht : s.1 r with
      | none =>
        have hf : flp (fnd8 E k) (E p) p (m + 1) r s = (true, (updO s.1 r (some p), fun i => s.2 i || decide (i = r))) := by
          show (if E p r = true ∧ ¬ s.2 r = true then _ else _) = _
          rw [if_pos c, ht]
        rw [hf]
        refine ⟨fun _ => ⟨?_, fun x => ?_, fun i hi => ?_, fun i x hx => ?_⟩, fun z => absurd rfl z⟩
        · have := mm_up (t := s.1) (v := some p) hr10
          rw [ht] at this
          show mm (updO s.1 r (some p)) = mm s0.1 + 1
          rw [← h1]
          exact this
        · have := cx_up (t := s.1) (v := some p) hr10 x
          rw [ht, dnx, dsx] at this
          show cx (updO s.1 r (some p)) x = cx s0.1 x + _
          rw [← h1]
          exact this
        · show updO s.1 r (some p) i = s0.1 i
          rw [updO_n (fun e => c.2 (by rw [← e]; exact h2 i hi)), h1]
        · by_cases e : i = r
          · subst e
            have hx : updO s.1 i (some p) i = some x := hx
            rw [updO_s] at hx
            cases hx
            exact Or.inr c.1
          · have hx : updO s.1 r (some p) i = some x := hx
            rw [updO_n e, h1] at hx
            exact Or.inl hx
      | some q =>
        obtain ⟨y, hy⟩ : ∃ y, y = fnd8 E k q (s.1, fun i => s.2 i || decide (i = r)) := ⟨_, rfl⟩
        have hf : flp (fnd8 E k) (E p) p (m + 1) r s = if y.1 = true then (true, (updO y.2.1 r (some p), y.2.2)) else flp (fnd8 E k) (E p) p m (r + 1) y.2 := by
          show (if E p r = true ∧ ¬ s.2 r = true then _ else _) = _
          rw [if_pos c, ht, hy]
        have hum : um8 (s.1, fun i => s.2 i || decide (i = r)) < k := by
          have e1 := cn_up (p := fun i => !s.2 i && (s.1 i).isSome) (q := fun i => !(s.2 i || decide (i = r)) && (s.1 i).isSome) (r := r) hr10 (fun i _ hi => by simp [hi])
          have e2 : b2 (!s.2 r && (s.1 r).isSome) = 1 := b2_t (by rw [ht]; simp [c.2])
          have e3 : b2 (!(s.2 r || decide (r = r)) && (s.1 r).isSome) = 0 := b2_f (by simp)
          have e4 : cn (fun i => !s.2 i && (s.1 i).isSome) 10 ≤ um8 s0 := cn_mono (fun i _ hi => by
            rw [h1] at hi
            simp only [Bool.and_eq_true, Bool.not_eq_true'] at hi ⊢
            refine ⟨?_, hi.2⟩
            cases e : s0.2 i with
            | false => rfl
            | true => rw [h2 i e] at hi; exact absurd hi.1 (by decide))
          rw [e2, e3] at e1
          show cn (fun i => !(s.2 i || decide (i = r)) && (s.1 i).isSome) 10 < k
          omega
        obtain ⟨r1, r2⟩ := hrec q (s.1, fun i => s.2 i || decide (i = r)) hum
        rw [← hy] at r1 r2
        rw [hf]
        by_cases hs : y.1 = true
        · rw [if_pos hs]
          obtain ⟨u1, u2, u3, u4⟩ := r1 hs
          have yr : y.2.1 r = some q := (u3 r hat).trans ht
          refine ⟨fun _ => ⟨?_, fun x => ?_, fun i hi => ?_, fun i x hx => ?_⟩, fun z => absurd rfl z⟩
          · have := mm_up (t := y.2.1) (v := some p) hr10
            rw [yr] at this
            have u1 : mm y.2.1 = mm s.1 + 1 := u1
            show mm (updO y.2.1 r (some p)) = mm s0.1 + 1
            rw [← h1]
            have e1 : b2 (some q : Option Nat).isSome = 1 := rfl
            have e2 : b2 (some p : Option Nat).isSome = 1 := rfl
            omega
          · have := cx_up (t := y.2.1) (v := some p) hr10 x
            rw [yr, dsx, dsx] at this
            have u2 : cx y.2.1 x = cx s.1 x + b2 (decide (x = q)) := u2 x
            show cx (updO y.2.1 r (some p)) x = cx s0.1 x + _
            rw [← h1]
            omega
          · show updO y.2.1 r (some p) i = s0.1 i
            have hi2 := h2 i hi
            rw [updO_n (fun e => c.2 (by rw [← e]; exact hi2)), u3 i (hmono i hi2)]
            show s.1 i = _
            rw [h1]
          · by_cases e : i = r
            · subst e
              have hx : updO y.2.1 i (some p) i = some x := hx
              rw [updO_s] at hx
              cases hx
              exact Or.inr c.1
            · have hx : updO y.2.1 r (some p) i = some x := hx
              rw [updO_n e] at hx
              rcases u4 i x hx with z | z
              · have z : s.1 i = some x := z
                rw [h1] at z
                exact Or.inl z
              · exact Or.inr z
        · rw [if_neg hs]
          obtain ⟨f1, f2, f3, f4⟩ := r2 hs
          have f1 : y.2.1 = s.1 := f1
          have hst : ∀ i, s.2 i = true → y.2.2 i = true := fun i hi => f2 i (hmono i hi)
          obtain ⟨i1, i2⟩ := ih (r + 1) y.2 (by omega) (f1.trans h1) (fun i hi => hst i (h2 i hi))
          refine ⟨i1, fun z h3 h4 => i2 z (fun i hi hE => ?_) (fun i hi hy2 h0 => ?_)⟩
          · by_cases e : i = r
            · subst e; exact f2 i hat
            · exact hst i (h3 i (by omega) hE)
          · by_cases e : s.2 i = true
            · obtain ⟨q', e1, e2⟩ := h4 i hi e h0
              exact ⟨q', e1, fun r' hr' hE => hst r' (e2 r' hr' hE)⟩
            · by_cases e2 : i = r
              · subst e2
                exact ⟨q, by rw [← h1]; exact ht, f3⟩
              · obtain ⟨q', e3, e4⟩ := f4 i hi hy2 (by show ¬ (s.2 i || decide (i = r)) = true; simp [e, e2])
                exact ⟨q', by rw [← h1]; exact e3, e4⟩
    · have hf : flp (fnd8 E k) (E p) p (m + 1) r s = flp (fnd8 E k) (E p) p m (r + 1) s := if_neg c
      rw [hf]
      obtain ⟨i1, i2⟩ := ih (r + 1) s (by omega) h1 h2
      refine ⟨i1, fun z h3 h4 => i2 z (fun i hi hE => ?_) h4⟩
      by_cases e : i = r
      · subst e; exact Classical.byContradiction (fun y => c ⟨hE, y⟩)
      · exact h3 i (by omega) hE
theorem fnd8_ok {E : Nat → Nat → Bool} : ∀ (k p : Nat) (s : PSt), um8 s < k → ((fnd8 E k p s).1 = true → SU E p s (fnd8 E k p s).2) ∧ (¬ (fnd8 E k p s).1 = true → FA E p s (fnd8 E k p s).2)
  | 0, _, _, h => absurd h (Nat.not_lt_zero _)
  | k + 1, p, s, h => by
    obtain ⟨h1, h2⟩ := flp_ok (p := p) (fun q s hs => fnd8_ok k q s hs) s h 10 0 s rfl rfl (fun _ hi => hi)
    exact ⟨h1, fun z => h2 z (fun i hi => absurd hi (Nat.not_lt_zero i)) (fun i _ h3 h4 => absurd h3 h4)⟩
/-! how many pairs there can be -/
def mxr (c : Nat → Bool) (v : Nat → Nat) : Nat → Nat → Nat
  | 0, b => b
  | k + 1, b => max (mxr c v k b) (if c k = true then v k else 0)
theorem mxr_b (c : Nat → Bool) (v : Nat → Nat) : ∀ (n b : Nat), b ≤ mxr c v n b
  | 0, b => Nat.le_refl b
  | n + 1, b => Nat.le_trans (mxr_b c v n b) (Nat.le_max_left _ _)
theorem mxr_v {c : Nat → Bool} {v : Nat → Nat} : ∀ {n b k : Nat}, k < n → c k = true → v k ≤ mxr c v n b
  | 0, _, k, h, _ => absurd h (Nat.not_lt_zero k)
  | n + 1, b, k, h, hc => by
    by_cases e : k = n
    · subst e
      refine Nat.le_trans ?_ (Nat.le_max_right _ _)
      rw [if_pos hc]
      exact Nat.le_refl _
    · exact Nat.le_trans (mxr_v (n := n) (by omega) hc) (Nat.le_max_left _ _)
theorem mxr_le {c : Nat → Bool} {v : Nat → Nat} {b B : Nat} (hb : b ≤ B) : ∀ (n : Nat), (∀ k, k < n → c k = true → v k ≤ B) → mxr c v n b ≤ B
  | 0, _ => hb
  | n + 1, h => by
    refine Nat.max_le.mpr ⟨mxr_le hb n (fun k hk => h k (by omega)), ?_⟩
    split
    · next z => exact h n (Nat.lt_succ_self n) z
    · exact Nat.zero_le _
def mx (E : Nat → Nat → Bool) : Nat → Nat → (Nat → Bool) → Nat
  | 0, _, _ => 0
  | n + 1, p, U => mxr (fun r => E p r && !U r) (fun r => 1 + mx E n (p + 1) (fun i => U i || decide (i = r))) 10 (mx E n (p + 1) U)
theorem mx_cov {E : Nat → Nat → Bool} : ∀ (n p : Nat) (U X Y : Nat → Bool), p + n ≤ 8 → (∀ a r, p ≤ a → a < p + n → r < 10 → E a r = true → ¬ U r = true → X a = true ∨ Y r = true) → mx E n p U ≤ cn X 8 + cn Y 10
  | 0, _, _, _, _, _, _ => Nat.zero_le _
  | n + 1, p, U, X, Y, h8, h => by
    refine mxr_le (mx_cov n (p + 1) U X Y (by omega) (fun a r h1 h2 => h a r (by omega) (by omega))) 10 (fun r hr hc => ?_)
    have hc : E p r = true ∧ ¬ U r = true := by simpa using hc
    by_cases hX : X p = true
    · have hu := cn_up (p := X) (q := fun i => X i && !decide (i = p)) (r := p) (show p < 8 by omega) (fun i _ hi => by rw [decide_eq_false hi]; simp)
      rw [b2_t hX, b2_f (by simp)] at hu
      have := mx_cov (E := E) n (p + 1) (fun i => U i || decide (i = r)) (fun i => X i && !decide (i = p)) Y (by omega) (fun a r' h1 h2 h3 h4 h5 => by
        have h5 : ¬ (U r' || decide (r' = r)) = true := h5
        rcases h a r' (by omega) (by omega) h3 h4 (fun z => h5 (by rw [z]; rfl)) with z | z
        · exact Or.inl (by show (X a && !decide (a = p)) = true; rw [z, decide_eq_false (by omega)]; rfl)
        · exact Or.inr z)
      omega
    · have hY : Y r = true := (h p r (Nat.le_refl _) (by omega) hr hc.1 hc.2).resolve_left hX
      have hu := cn_up (p := Y) (q := fun i => Y i && !decide (i = r)) (r := r) hr (fun i _ hi => by rw [decide_eq_false hi]; simp)
      rw [b2_t hY, b2_f (by simp)] at hu
      have := mx_cov (E := E) n (p + 1) (fun i => U i || decide (i = r)) X (fun i => Y i && !decide (i = r)) (by omega) (fun a r' h1 h2 h3 h4 h5 => by
        have h5 : ¬ (U r' || decide (r' = r)) = true := h5
        have hne : r' ≠ r := fun z => h5 (by rw [z]; simp)
        rcases h a r' (by omega) (by omega) h3 h4 (fun z => h5 (by rw [z]; rfl)) with z | z
        · exact Or.inl z
        · exact Or.inr (by show (Y r' && !decide (r' = r)) = true; rw [z, decide_eq_false hne]; rfl))
      omega
theorem cx_pos {t : Nat → Option Nat} {r x : Nat} (hr : r < 10) (h : t r = some x) : 1 ≤ cx t x := cn_pos hr (decide_eq_true h)
theorem cx_ex {t : Nat → Option Nat} {x : Nat} (h : cx t x ≠ 0) : ∃ r, r < 10 ∧ t r = some x := by
  obtain ⟨r, h1, h2⟩ := cn_ex h
  exact ⟨r, h1, of_decide_eq_true h2⟩
theorem cx_1 {t : Nat → Option Nat} {x r r' : Nat} (h : cx t x ≤ 1) (hr : r < 10) (hr' : r' < 10) (e1 : t r = some x) (e2 : t r' = some x) : r = r' := by
  refine Classical.byContradiction (fun z => ?_)
  have := cx_up (t := t) (v := none) hr x
  rw [e1, dnx, b2_t (show decide ((some x : Option Nat) = some x) = true by simp)] at this
  have h2 : 1 ≤ cx (updO t r none) x := cx_pos hr' (by rw [updO_n (fun y => z y.symm)]; exact e2)
  have e : b2 false = 0 := rfl
  omega
theorem mx_mat {E : Nat → Nat → Bool} : ∀ (n p : Nat) (U : Nat → Bool) (t : Nat → Option Nat), (∀ x, cx t x ≤ 1) → (∀ x, x < p ∨ p + n ≤ x → cx t x = 0) → (∀ r x, r < 10 → t r = some x → E x r = true ∧ ¬ U r = true) → mm t ≤ mx E n p U
  | 0, p, U, t, _, h2, _ => by
    have : mm t = 0 := cn_0 (fun r hr z => by
      obtain ⟨x, hx⟩ := Option.isSome_iff_exists.mp z
      have := cx_pos hr hx
      have := h2 x (by omega)
      omega)
    rw [this]
    exact Nat.zero_le _
  | n + 1, p, U, t, h1, h2, h3 => by
    by_cases hp : cx t p = 0
    · have := mx_mat n (p + 1) U t h1 (fun x hx => by
        by_cases e : x = p
        · subst e; exact hp
        · exact h2 x (by omega)) h3
      exact Nat.le_trans this (mxr_b _ _ _ _)
    · obtain ⟨r, hr, hrp⟩ := cx_ex hp
      have em := mm_up (t := t) (v := none) hr
      have ec : ∀ x, cx (updO t r none) x + b2 (decide (x = p)) = cx t x := fun x => by
        have := cx_up (t := t) (v := none) hr x
        rw [hrp, dsx, dnx] at this
        exact this
      have ep := ec p
      rw [b2_t (show decide (p = p) = true by simp)] at ep
      have h1p := h1 p
      have := mx_mat (E := E) n (p + 1) (fun i => U i || decide (i = r)) (updO t r none) (fun x => by have := ec x; have := h1 x; omega) (fun x hx => by
        by_cases e : x = p
        · subst e; omega
        · have := ec x; have := h2 x (by omega); omega) (fun r' x hr' hx => by
        have hne : r' ≠ r := fun z => by rw [z, updO_s] at hx; cases hx
        rw [updO_n hne] at hx
        obtain ⟨z1, z2⟩ := h3 r' x hr' hx
        exact ⟨z1, by show ¬ (U r' || decide (r' = r)) = true; simp [z2, hne]⟩)
      have hE := h3 r p hr hrp
      have hv := mxr_v (c := fun r => E p r && !U r) (v := fun r => 1 + mx E n (p + 1) (fun i => U i || decide (i = r))) (n := 10) (b := mx E n (p + 1) U) hr (by simp [hE])
      rw [hrp] at em
      have e1 : b2 (some p : Option Nat).isSome = 1 := rfl
      have e2 : b2 (none : Option Nat).isSome = 0 := rfl
      show mm t ≤ mxr _ _ 10 _
      have hv : 1 + mx E n (p + 1) (fun i => U i || decide (i = r)) ≤ mxr (fun r => E p r && !U r) (fun r => 1 + mx E n (p + 1) (fun i => U i || decide (i = r))) 10 (mx E n (p + 1) U) := hv
      omega
/-! one pilgrim after the other -/
def mpl (E : Nat → Nat → Bool) : Nat → Nat → (Nat → Option Nat) → Nat → Nat
  | 0, _, _, c => c
  | m + 1, p, t, c => mpl E m (p + 1) (fnd8 E 9 p (t, fun _ => false)).2.1 (if (fnd8 E 9 p (t, fun _ => false)).1 = true then c + 1 else c)
theorem mpl_ok {E : Nat → Nat → Bool} {lo hi : Nat} (h8 : hi ≤ 8) : ∀ (m p : Nat) (t : Nat → Option Nat) (c : Nat) (X Y : Nat → Bool), p + m = hi → lo ≤ p → c ≤ p - lo → mm t = c → (∀ x, cx t x ≤ 1) → (∀ x, x < lo ∨ p ≤ x → cx t x = 0) → (∀ r x, r < 10 → t r = some x → E x r = true) → (∀ a r, lo ≤ a → a < p → r < 10 → E a r = true → X a = true ∨ Y r = true) → cn X 8 + cn Y 10 ≤ c → mpl E m p t c = mx E (hi - lo) lo (fun _ => false) := by
  intro m
  induction m with
  | zero =>
    intro p t c X Y hm hlo hc h1 h2 h3 h4 h5 h6
    have e1 : lo + (hi - lo) = p := by omega
    have u := mx_cov (E := E) (hi - lo) lo (fun _ => false) X Y (by omega) (fun a r a1 a2 a3 a4 _ => h5 a r a1 (by omega) a3 a4)
    have l := mx_mat (E := E) (hi - lo) lo (fun _ => false) t h2 (fun x hx => h3 x (by omega)) (fun r x hr hx => ⟨h4 r x hr hx, by simp⟩)
    show c = _
    omega
  | succ m ih =>
    intro p t c X Y hm hlo hc h1 h2 h3 h4 h5 h6
    have hu : um8 (t, fun _ => false) < 9 := by
      have : um8 (t, fun _ => false) = mm t := cn_congr (fun i _ => by simp)
      omega
    obtain ⟨k1, k2⟩ := fnd8_ok (E := E) 9 p (t, fun _ => false) hu
    obtain ⟨y, hy⟩ : ∃ y, y = fnd8 E 9 p (t, fun _ => false) := ⟨_, rfl⟩
    rw [← hy] at k1 k2
    show mpl E m (p + 1) (fnd8 E 9 p (t, fun _ => false)).2.1 (if (fnd8 E 9 p (t, fun _ => false)).1 = true then c + 1 else c) = _
    rw [← hy]
    have hp8 : p < 8 := by omega
    by_cases hs : y.1 = true
    · obtain ⟨u1, u2, u3, u4⟩ := k1 hs
      have u1 : mm y.2.1 = mm t + 1 := u1
      have u2 : ∀ x, cx y.2.1 x = cx t x + b2 (decide (x = p)) := u2
      rw [if_pos hs]
      refine ih (p + 1) y.2.1 (c + 1) (fun a => X a || decide (a = p)) Y (by omega) (by omega) (by omega) (by omega) (fun x => ?_) (fun x hx => ?_) (fun r x hr hx => ?_) (fun a r a1 a2 a3 a4 => ?_) ?_
      · rw [u2 x]
        by_cases e : x = p
        · subst e
          rw [h3 x (by omega), b2_t (by simp)]
          exact Nat.le_refl 1
        · rw [b2_f (by simp [e])]
          exact h2 x
      · rw [u2 x, b2_f (by simp; omega)]
        exact h3 x (by omega)
      · rcases u4 r x hx with z | z
        · exact h4 r x hr z
        · exact z
      · by_cases e : a = p
        · exact Or.inl (by show (X a || decide (a = p)) = true; simp [e])
        · rcases h5 a r a1 (by omega) a3 a4 with z | z
          · exact Or.inl (by show (X a || decide (a = p)) = true; rw [z]; rfl)
          · exact Or.inr z
      · have := cn_up (p := X) (q := fun a => X a || decide (a = p)) (r := p) hp8 (fun i _ hi => by simp [hi])
        have b1 := b2_le (X p || decide (p = p))
        omega
    · obtain ⟨f1, f2, f3, f4⟩ := k2 hs
      have f1 : y.2.1 = t := f1
      rw [if_neg hs, f1]
      have f4 : ∀ r, r < 10 → y.2.2 r = true → ∃ q, t r = some q ∧ ∀ r', r' < 10 → E q r' = true → y.2.2 r' = true := fun r hr h => f4 r hr h (by simp)
      obtain ⟨P, hP⟩ : ∃ P : Nat → Bool, ∀ a, P a = true ↔ ∃ r, r < 10 ∧ y.2.2 r = true ∧ t r = some a := ⟨fun a => decide (cn (fun r => y.2.2 r && decide (t r = some a)) 10 ≠ 0), fun a => by
        rw [decide_eq_true_iff]
        constructor
        · intro z
          obtain ⟨r, r1, r2⟩ := cn_ex z
          rw [Bool.and_eq_true, decide_eq_true_iff] at r2
          exact ⟨r, r1, r2⟩
        · rintro ⟨r, r1, r2, r3⟩
          have := cn_pos (p := fun r => y.2.2 r && decide (t r = some a)) r1 (by rw [r2, r3]; simp)
          omega⟩
      refine ih (p + 1) t c (fun a => X a && !P a) (fun r => Y r || y.2.2 r) (by omega) (by omega) (by omega) h1 h2 (fun x hx => h3 x (by omega)) h4 (fun a r a1 a2 a3 a4 => ?_) ?_
      · by_cases e : a = p
        · subst e
          exact Or.inr (by show (Y r || y.2.2 r) = true; rw [f3 r a3 a4]; simp)
        · by_cases e2 : P a = true
          · obtain ⟨r0, r1, r2, r3⟩ := (hP a).mp e2
            obtain ⟨q, q1, q2⟩ := f4 r0 r1 r2
            rw [r3] at q1
            cases q1
            exact Or.inr (by show (Y r || y.2.2 r) = true; rw [q2 r a3 a4]; simp)
          · rcases h5 a r a1 (by omega) a3 a4 with z | z
            · exact Or.inl (by show (X a && !P a) = true; rw [z]; simp [e2])
            · exact Or.inr (by show (Y r || y.2.2 r) = true; rw [z]; rfl)
      · have s1 : cn (fun r => Y r || y.2.2 r) 10 ≤ cn Y 10 + cn (fun r => y.2.2 r && !Y r) 10 := cn_add (fun i _ hi => by
          have hi : (Y i || y.2.2 i) = true := hi
          cases e : Y i with
          | true => exact Or.inl rfl
          | false => rw [e] at hi; exact Or.inr (by simpa using hi))
        have s2 : cn (fun a => X a && !P a) 8 + cn (fun a => X a && P a) 8 ≤ cn X 8 := cn_sub (fun i _ => by
          cases X i <;> cases P i <;> simp)
        have s3 : cn (fun r => y.2.2 r && !Y r) 10 ≤ cn (fun a => X a && P a) 8 := cn_inj (g := fun r => (t r).getD 0) 10 (fun a => X a && P a) (fun r hr hA => by
          rw [Bool.and_eq_true, Bool.not_eq_true'] at hA
          obtain ⟨q, q1, q2⟩ := f4 r hr hA.1
          have hq := cx_pos hr q1
          have hqp : lo ≤ q ∧ q < p := by
            refine Classical.byContradiction (fun z => ?_)
            have := h3 q (by omega)
            omega
          show (t r).getD 0 < 8 ∧ (X ((t r).getD 0) && P ((t r).getD 0)) = true
          rw [q1]
          show q < 8 ∧ (X q && P q) = true
          refine ⟨by omega, ?_⟩
          rw [(hP q).mpr ⟨r, hr, hA.1, q1⟩]
          rcases h5 q r hqp.1 hqp.2 hr (h4 r q hr q1) with z | z
          · rw [z]; rfl
          · rw [hA.2] at z; cases z) (fun r r' hr hr' hA hA' hg => by
          rw [Bool.and_eq_true] at hA hA'
          obtain ⟨q, q1, _⟩ := f4 r hr hA.1
          obtain ⟨q', q1', _⟩ := f4 r' hr' hA'.1
          have hg : (t r).getD 0 = (t r').getD 0 := hg
          rw [q1, q1'] at hg
          have hg : q = q' := hg
          rw [← hg] at q1'
          exact cx_1 (h2 q) hr hr' q1 q1')
        omega
theorem mpl_mx {E : Nat → Nat → Bool} {lo hi : Nat} (h8 : hi ≤ 8) (hl : lo ≤ hi) : mpl E (hi - lo) lo (fun _ => none) 0 = mx E (hi - lo) lo (fun _ => false) := by
  have e : ∀ x, cx (fun _ => none) x = 0 := fun x => cn_0 (fun r _ z => by simp at z)
  exact mpl_ok h8 (hi - lo) lo (fun _ => none) 0 (fun _ => false) (fun _ => false) (by omega) (Nat.le_refl _) (Nat.zero_le _) (cn_0 (fun r _ z => by simp at z)) (fun x => by rw [e x]; exact Nat.zero_le _) (fun x _ => e x) (fun r x _ hx => by cases hx) (fun a r h1 h2 => absurd h1 (by omega)) (by rw [cn_0 (fun _ _ => Bool.false_ne_true), cn_0 (fun _ _ => Bool.false_ne_true)]; exact Nat.le_refl _)
